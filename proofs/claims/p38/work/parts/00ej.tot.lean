theorem tt_st50 {N : Nat} (hN : 3000000000 ≤ N) (I0 I : Nat → Int32) (L : Int64) (M : Nat → Nat → Int32) (k : KX12 I M) (hf : FR I0 I) (h4 : I 4 = I0 4) (h5 : I 5 = I0 5) (hp : (I0 7).toInt ≤ (I 7).toInt) : wq (fX12_steps_J50 N I L M) (SP I0 M) := by
  unfold fX12_steps_J50
  refine wq_v (fun I3 e3 => ?_)
  refine wq_v (fun L4 e4 => ?_)
  refine wq_v (fun I5 e5 => ?_)
  have k5 : KX12 I5 M := by rw [e5, e3]; exact KX12.si11 (KX12.si9 k)
  have f5 : FR I0 I5 := by rw [e5, e3]; exact (hf.up (by omega)).up (by omega)
  have g4 : I5 4 = I0 4 := by rw [e5, e3]; exact h4
  have g5 : I5 5 = I0 5 := by rw [e5, e3]; exact h5
  have g7 : I5 7 = I 7 := by rw [e5, e3]; rfl
  rw [← g7] at hp
  clear e5 e3
  have h7 := k5.i7
  have h6 := k5.i6
  have l_0 := il_0
  have l_1 := il_1
  obtain ⟨r6, e6, -⟩ := tt_fX12_byteAt hN I5 L4 M (I5 7) h7 k5
  rw [e6, Option.bind_some]
  refine wq_lt (fun hc => ?_) (fun hc => ?_)
  · obtain ⟨r7, e7, -⟩ := tt_fX12_isLetter hN r6
    rw [e7, Option.bind_some]
    refine wq_eq (fun hc1 => ?_) (fun hc1 => ?_)
    · obtain ⟨r8, e8, -⟩ := tt_fX12_isDigit hN r6
      rw [e8, Option.bind_some]
      refine wq_eq (fun hc2 => ?_) (fun hc2 => ?_)
      · have ta := ia_add (I5 7) (1 : Int32) (by omega) (by omega)
        refine wq_v (fun I9 e9 => ?_)
        subst e9
        have k9 : KX12 (upd I5 7 (I5 7 + 1)) M := KX12.si7 k5 ⟨by omega, by omega⟩
        have hz : ∀ z : Int32, wq (fX12_steps_J276 N (upd I5 7 (I5 7 + 1)) L4 M z) (SP I0 M) := by
          intro z
          unfold fX12_steps_J276
          refine wq_v (fun J e => ?_)
          subst e
          refine tt_st279 N I0 _ L4 M (KX12.si8 k9) ((f5.up (by omega)).up (by omega)) g4 g5 ⟨?_, Or.inr ?_⟩
          · show _ ≤ (I5 7 + 1).toInt
            omega
          · show _ < (I5 7 + 1).toInt
            omega
        exact wq_i (fun _ => hz _) (fun _ => hz _)
      · have hq : wq (fX12_steps_L182 N N I5 L4 M) (SP I0 M) := by
          obtain ⟨n, rfl⟩ : ∃ n, N = n + 1 := ⟨N - 1, by omega⟩
          rw [fX12_steps_L182.eq_2, e6, Option.bind_some, e8, Option.bind_some]
          have ta := ia_add (I5 7) (1 : Int32) (by omega) (by omega)
          have hgo : ∀ (J : Nat → Int32) (L2 : Int64), KX12 J M → FR I0 J → J 4 = I0 4 → J 5 = I0 5 → J 7 = I5 7 → wq (fX12_steps_L182 (n + 1) n (upd J 7 (I5 7 + 1)) L2 M) (SP I0 M) := by
            intro J L2 kJ fJ j4 j5 j7
            refine tt_st182 hN I0 M n _ L2 (KX12.si7 kJ ⟨by omega, by omega⟩) (fJ.up (by omega)) j4 j5 ?_ ?_
            · show (I0 7).toInt < (I5 7 + 1).toInt
              omega
            · show 600 - (I5 7 + 1).toInt < _
              omega
          refine wq_eq (fun hx => absurd hx hc2) (fun _ => ?_)
          refine wq_le (fun hc2 => ?_) (fun hc2 => ?_)
          · refine wq_v (fun J e => ?_)
            subst e
            exact hgo I5 L4 k5 f5 g4 g5 rfl
          · rw [Option.bind_some]
            refine wq_v (fun J e => ?_)
            refine wq_v (fun J2 e2 => ?_)
            have q7 : J 7 = I5 7 := by rw [e]; rfl
            rw [q7] at e2
            subst e2
            refine hgo J L4 ?_ ?_ ?_ ?_ q7
            · rw [e]; exact KX12.si11 k5
            · rw [e]; exact f5.up (by omega)
            · rw [e]; exact g4
            · rw [e]; exact g5
        exact hq
    · have hq : wq (fX12_steps_L103 N N I5 L4 M) (SP I0 M) := by
        obtain ⟨n, rfl⟩ : ∃ n, N = n + 1 := ⟨N - 1, by omega⟩
        rw [fX12_steps_L103.eq_2, e6, Option.bind_some, e7, Option.bind_some]
        have ta := ia_add (I5 7) (1 : Int32) (by omega) (by omega)
        have hgo : ∀ (J : Nat → Int32) (L2 : Int64), KX12 J M → FR I0 J → J 4 = I0 4 → J 5 = I0 5 → J 7 = I5 7 → wq (fX12_steps_L103 (n + 1) n (upd J 7 (I5 7 + 1)) L2 M) (SP I0 M) := by
          intro J L2 kJ fJ j4 j5 j7
          refine tt_st103 hN I0 M n _ L2 (KX12.si7 kJ ⟨by omega, by omega⟩) (fJ.up (by omega)) j4 j5 ?_ ?_
          · show (I0 7).toInt < (I5 7 + 1).toInt
            omega
          · show 600 - (I5 7 + 1).toInt < _
            omega
        refine wq_eq (fun hx => absurd hx hc1) (fun _ => ?_)
        refine wq_le (fun hc2 => ?_) (fun hc2 => ?_)
        · refine wq_v (fun J e => ?_)
          subst e
          exact hgo I5 L4 k5 f5 g4 g5 rfl
        · rw [Option.bind_some]
          refine wq_v (fun L2 eL => ?_)
          refine wq_v (fun J e => ?_)
          subst e
          exact hgo I5 L2 k5 f5 g4 g5 rfl
      exact hq
  · refine wq_v (fun J e => ?_)
    subst e
    exact tt_st279 N I0 _ L4 M (KX12.si8 k5) (f5.up (by omega)) g4 g5 ⟨hp, Or.inl il_0⟩
theorem tt_st0 {N : Nat} (hN : 3000000000 ≤ N) (I0 : Nat → Int32) (M : Nat → Nat → Int32) : ∀ (fu : Nat) (I : Nat → Int32) (L : Int64), KX12 I M → FR I0 I → I 4 = I0 4 → I 5 = I0 5 → (I0 7).toInt ≤ (I 7).toInt → 600 - (I 7).toInt < (fu : Int) → wq (fX12_steps_L0 N fu I L M) (SP I0 M) := by
  intro fu
  induction fu with
  | zero => intro I L k hf h4 h5 hp hm; have := k.i7; exfalso; omega
  | succ fu ih =>
    intro I L k hf h4 h5 hp hm
    rw [fX12_steps_L0.eq_2]
    have h7 := k.i7
    have h6 := k.i6
    have l_0 := il_0
    have l_1 := il_1
    refine wq_le (fun hc => ?_) (fun hc => ?_)
    · exact tt_st50 hN I0 I L M k hf h4 h5 hp
    · have ta := ia_add (I 7) (1 : Int32) (by omega) (by omega)
      have hn : wq (fX12_steps_L0 N fu (upd I 7 (I 7 + 1)) L M) (SP I0 M) := by
        refine ih _ L (KX12.si7 k ⟨by omega, by omega⟩) (hf.up (by omega)) h4 h5 ?_ ?_
        · show _ ≤ (I 7 + 1).toInt
          omega
        · show 600 - (I 7 + 1).toInt < _
          omega
      refine wq_b (tt_fX12_byteAt hN I L M (I 7) h7 k) (fun r25 h25 => ?_)
      refine wq_i (fun _ => ?_) (fun _ => ?_)
      · exact wq_v (fun J e => by subst e; exact hn)
      · refine wq_b (tt_fX12_byteAt hN I L M (I 7) h7 k) (fun r27 h27 => ?_)
        refine wq_i (fun _ => ?_) (fun _ => ?_)
        · exact wq_v (fun J e => by subst e; exact hn)
        · exact tt_st50 hN I0 I L M k hf h4 h5 hp
theorem tt_steps {N : Nat} (hN : 3000000000 ≤ N) (I : Nat → Int32) (L : Int64) (M : Nat → Nat → Int32) (k : KX12 I M) : wq (fX12_steps N I L M) (SP I M) := by
  unfold fX12_steps
  have h7 := k.i7
  exact tt_st0 hN I M N I L k (FR.rf I) rfl rfl (by omega) (by omega)
theorem tt_fX12_steps {N : Nat} (hN : 3000000000 ≤ N) (I0 : Nat → Int32) (L0 : Int64) (M0 : Nat → Nat → Int32) (k_I0 : KX12 I0 M0) : wq (fX12_steps N I0 L0 M0) (fun r => KX12 r.1 r.2.2 ∧ True) := wq_w (tt_steps hN I0 L0 M0 k_I0) (fun r h => by rw [h.1]; exact ⟨h.2.2.2.2.1, trivial⟩)
set_option maxHeartbeats 4000000 in
theorem tt_fX12_spelled {N : Nat} (hN : 3000000000 ≤ N) (x0 : Int32) (x1 : Int32) (x2 : Int32) (x3 : Int32) (x4 : Int32) (x5 : Int32) (x6 : Int32)  : wq (fX12_spelled N x0 x1 x2 x3 x4 x5 x6) (fun r => True) := by
  unfold fX12_spelled
  refine wq_v (fun v6_q23748 h_v6_q23748 => ?_)
  have b_23749 := i32b x1
  have l_0 := il_0
  refine wq_eq (fun hc_23750 => ?_) (fun hc_23751 => ?_)
  · unfold fX12_spelled_J23
    have b_23752 := i32b x2
    refine wq_eq (fun hc_23753 => ?_) (fun hc_23754 => ?_)
    · unfold fX12_spelled_J39
      have b_23755 := i32b x3
      refine wq_eq (fun hc_23756 => ?_) (fun hc_23757 => ?_)
      · unfold fX12_spelled_J55
        have b_23758 := i32b x4
        refine wq_eq (fun hc_23759 => ?_) (fun hc_23760 => ?_)
        · unfold fX12_spelled_J73
          have b_23761 := i32b x5
          refine wq_eq (fun hc_23762 => ?_) (fun hc_23763 => ?_)
          · unfold fX12_spelled_J91
            have b_23764 := i32b x6
            refine wq_eq (fun hc_23765 => ?_) (fun hc_23766 => ?_)
            · exact wq_s trivial
            · refine wq_v (fun v1_q23767 h_v1_q23767 => ?_)
              exact wq_s trivial
          · refine wq_v (fun v2_q23768 h_v2_q23768 => ?_)
            unfold fX12_spelled_J91
            have b_23769 := i32b x6
            refine wq_eq (fun hc_23770 => ?_) (fun hc_23771 => ?_)
            · exact wq_s trivial
            · refine wq_v (fun v1_q23772 h_v1_q23772 => ?_)
              exact wq_s trivial
        · refine wq_v (fun v3_q23773 h_v3_q23773 => ?_)
          unfold fX12_spelled_J73
          have b_23774 := i32b x5
          refine wq_eq (fun hc_23775 => ?_) (fun hc_23776 => ?_)
          · unfold fX12_spelled_J91
            have b_23777 := i32b x6
            refine wq_eq (fun hc_23778 => ?_) (fun hc_23779 => ?_)
            · exact wq_s trivial
            · refine wq_v (fun v1_q23780 h_v1_q23780 => ?_)
              exact wq_s trivial
          · refine wq_v (fun v2_q23781 h_v2_q23781 => ?_)
            unfold fX12_spelled_J91
            have b_23782 := i32b x6
            refine wq_eq (fun hc_23783 => ?_) (fun hc_23784 => ?_)
            · exact wq_s trivial
            · refine wq_v (fun v1_q23785 h_v1_q23785 => ?_)
              exact wq_s trivial
      · refine wq_v (fun v4_q23786 h_v4_q23786 => ?_)
        unfold fX12_spelled_J55
        have b_23787 := i32b x4
        refine wq_eq (fun hc_23788 => ?_) (fun hc_23789 => ?_)
        · unfold fX12_spelled_J73
          have b_23790 := i32b x5
          refine wq_eq (fun hc_23791 => ?_) (fun hc_23792 => ?_)
          · unfold fX12_spelled_J91
            have b_23793 := i32b x6
            refine wq_eq (fun hc_23794 => ?_) (fun hc_23795 => ?_)
            · exact wq_s trivial
            · refine wq_v (fun v1_q23796 h_v1_q23796 => ?_)
              exact wq_s trivial
          · refine wq_v (fun v2_q23797 h_v2_q23797 => ?_)
            unfold fX12_spelled_J91
            have b_23798 := i32b x6
            refine wq_eq (fun hc_23799 => ?_) (fun hc_23800 => ?_)
            · exact wq_s trivial
            · refine wq_v (fun v1_q23801 h_v1_q23801 => ?_)
              exact wq_s trivial
        · refine wq_v (fun v3_q23802 h_v3_q23802 => ?_)
          unfold fX12_spelled_J73
          have b_23803 := i32b x5
          refine wq_eq (fun hc_23804 => ?_) (fun hc_23805 => ?_)
          · unfold fX12_spelled_J91
            have b_23806 := i32b x6
            refine wq_eq (fun hc_23807 => ?_) (fun hc_23808 => ?_)
            · exact wq_s trivial
            · refine wq_v (fun v1_q23809 h_v1_q23809 => ?_)
              exact wq_s trivial
          · refine wq_v (fun v2_q23810 h_v2_q23810 => ?_)
            unfold fX12_spelled_J91
            have b_23811 := i32b x6
            refine wq_eq (fun hc_23812 => ?_) (fun hc_23813 => ?_)
            · exact wq_s trivial
            · refine wq_v (fun v1_q23814 h_v1_q23814 => ?_)
              exact wq_s trivial
    · refine wq_v (fun v5_q23815 h_v5_q23815 => ?_)
      unfold fX12_spelled_J39
      have b_23816 := i32b x3
      refine wq_eq (fun hc_23817 => ?_) (fun hc_23818 => ?_)
      · unfold fX12_spelled_J55
        have b_23819 := i32b x4
        refine wq_eq (fun hc_23820 => ?_) (fun hc_23821 => ?_)
        · unfold fX12_spelled_J73
          have b_23822 := i32b x5
          refine wq_eq (fun hc_23823 => ?_) (fun hc_23824 => ?_)
          · unfold fX12_spelled_J91
            have b_23825 := i32b x6
            refine wq_eq (fun hc_23826 => ?_) (fun hc_23827 => ?_)
            · exact wq_s trivial
            · refine wq_v (fun v1_q23828 h_v1_q23828 => ?_)
              exact wq_s trivial
          · refine wq_v (fun v2_q23829 h_v2_q23829 => ?_)
            unfold fX12_spelled_J91
            have b_23830 := i32b x6
            refine wq_eq (fun hc_23831 => ?_) (fun hc_23832 => ?_)
            · exact wq_s trivial
            · refine wq_v (fun v1_q23833 h_v1_q23833 => ?_)
              exact wq_s trivial
        · refine wq_v (fun v3_q23834 h_v3_q23834 => ?_)
          unfold fX12_spelled_J73
          have b_23835 := i32b x5
          refine wq_eq (fun hc_23836 => ?_) (fun hc_23837 => ?_)
          · unfold fX12_spelled_J91
            have b_23838 := i32b x6
            refine wq_eq (fun hc_23839 => ?_) (fun hc_23840 => ?_)
            · exact wq_s trivial
            · refine wq_v (fun v1_q23841 h_v1_q23841 => ?_)
              exact wq_s trivial
          · refine wq_v (fun v2_q23842 h_v2_q23842 => ?_)
            unfold fX12_spelled_J91
            have b_23843 := i32b x6
            refine wq_eq (fun hc_23844 => ?_) (fun hc_23845 => ?_)
            · exact wq_s trivial
            · refine wq_v (fun v1_q23846 h_v1_q23846 => ?_)
              exact wq_s trivial
      · refine wq_v (fun v4_q23847 h_v4_q23847 => ?_)
        unfold fX12_spelled_J55
        have b_23848 := i32b x4
        refine wq_eq (fun hc_23849 => ?_) (fun hc_23850 => ?_)
        · unfold fX12_spelled_J73
          have b_23851 := i32b x5
          refine wq_eq (fun hc_23852 => ?_) (fun hc_23853 => ?_)
          · unfold fX12_spelled_J91
            have b_23854 := i32b x6
            refine wq_eq (fun hc_23855 => ?_) (fun hc_23856 => ?_)
            · exact wq_s trivial
            · refine wq_v (fun v1_q23857 h_v1_q23857 => ?_)
              exact wq_s trivial
          · refine wq_v (fun v2_q23858 h_v2_q23858 => ?_)
            unfold fX12_spelled_J91
            have b_23859 := i32b x6
            refine wq_eq (fun hc_23860 => ?_) (fun hc_23861 => ?_)
            · exact wq_s trivial
            · refine wq_v (fun v1_q23862 h_v1_q23862 => ?_)
              exact wq_s trivial
        · refine wq_v (fun v3_q23863 h_v3_q23863 => ?_)
          unfold fX12_spelled_J73
          have b_23864 := i32b x5
          refine wq_eq (fun hc_23865 => ?_) (fun hc_23866 => ?_)
          · unfold fX12_spelled_J91
            have b_23867 := i32b x6
            refine wq_eq (fun hc_23868 => ?_) (fun hc_23869 => ?_)
            · exact wq_s trivial
            · refine wq_v (fun v1_q23870 h_v1_q23870 => ?_)
              exact wq_s trivial
          · refine wq_v (fun v2_q23871 h_v2_q23871 => ?_)
            unfold fX12_spelled_J91
            have b_23872 := i32b x6
            refine wq_eq (fun hc_23873 => ?_) (fun hc_23874 => ?_)
            · exact wq_s trivial
            · refine wq_v (fun v1_q23875 h_v1_q23875 => ?_)
              exact wq_s trivial
  · refine wq_v (fun v7_q23876 h_v7_q23876 => ?_)
    unfold fX12_spelled_J23
    have b_23877 := i32b x2
    refine wq_eq (fun hc_23878 => ?_) (fun hc_23879 => ?_)
    · unfold fX12_spelled_J39
      have b_23880 := i32b x3
      refine wq_eq (fun hc_23881 => ?_) (fun hc_23882 => ?_)
      · unfold fX12_spelled_J55
        have b_23883 := i32b x4
        refine wq_eq (fun hc_23884 => ?_) (fun hc_23885 => ?_)
        · unfold fX12_spelled_J73
          have b_23886 := i32b x5
          refine wq_eq (fun hc_23887 => ?_) (fun hc_23888 => ?_)
          · unfold fX12_spelled_J91
            have b_23889 := i32b x6
            refine wq_eq (fun hc_23890 => ?_) (fun hc_23891 => ?_)
            · exact wq_s trivial
            · refine wq_v (fun v1_q23892 h_v1_q23892 => ?_)
              exact wq_s trivial
          · refine wq_v (fun v2_q23893 h_v2_q23893 => ?_)
            unfold fX12_spelled_J91
            have b_23894 := i32b x6
            refine wq_eq (fun hc_23895 => ?_) (fun hc_23896 => ?_)
            · exact wq_s trivial
            · refine wq_v (fun v1_q23897 h_v1_q23897 => ?_)
              exact wq_s trivial
        · refine wq_v (fun v3_q23898 h_v3_q23898 => ?_)
          unfold fX12_spelled_J73
          have b_23899 := i32b x5
          refine wq_eq (fun hc_23900 => ?_) (fun hc_23901 => ?_)
          · unfold fX12_spelled_J91
            have b_23902 := i32b x6
            refine wq_eq (fun hc_23903 => ?_) (fun hc_23904 => ?_)
            · exact wq_s trivial
            · refine wq_v (fun v1_q23905 h_v1_q23905 => ?_)
              exact wq_s trivial
          · refine wq_v (fun v2_q23906 h_v2_q23906 => ?_)
            unfold fX12_spelled_J91
            have b_23907 := i32b x6
            refine wq_eq (fun hc_23908 => ?_) (fun hc_23909 => ?_)
            · exact wq_s trivial
            · refine wq_v (fun v1_q23910 h_v1_q23910 => ?_)
              exact wq_s trivial
      · refine wq_v (fun v4_q23911 h_v4_q23911 => ?_)
        unfold fX12_spelled_J55
        have b_23912 := i32b x4
        refine wq_eq (fun hc_23913 => ?_) (fun hc_23914 => ?_)
        · unfold fX12_spelled_J73
          have b_23915 := i32b x5
          refine wq_eq (fun hc_23916 => ?_) (fun hc_23917 => ?_)
          · unfold fX12_spelled_J91
            have b_23918 := i32b x6
            refine wq_eq (fun hc_23919 => ?_) (fun hc_23920 => ?_)
            · exact wq_s trivial
            · refine wq_v (fun v1_q23921 h_v1_q23921 => ?_)
              exact wq_s trivial
          · refine wq_v (fun v2_q23922 h_v2_q23922 => ?_)
            unfold fX12_spelled_J91
            have b_23923 := i32b x6
            refine wq_eq (fun hc_23924 => ?_) (fun hc_23925 => ?_)
            · exact wq_s trivial
            · refine wq_v (fun v1_q23926 h_v1_q23926 => ?_)
              exact wq_s trivial
        · refine wq_v (fun v3_q23927 h_v3_q23927 => ?_)
          unfold fX12_spelled_J73
          have b_23928 := i32b x5
          refine wq_eq (fun hc_23929 => ?_) (fun hc_23930 => ?_)
          · unfold fX12_spelled_J91
            have b_23931 := i32b x6
            refine wq_eq (fun hc_23932 => ?_) (fun hc_23933 => ?_)
            · exact wq_s trivial
            · refine wq_v (fun v1_q23934 h_v1_q23934 => ?_)
              exact wq_s trivial
          · refine wq_v (fun v2_q23935 h_v2_q23935 => ?_)
            unfold fX12_spelled_J91
            have b_23936 := i32b x6
            refine wq_eq (fun hc_23937 => ?_) (fun hc_23938 => ?_)
            · exact wq_s trivial
            · refine wq_v (fun v1_q23939 h_v1_q23939 => ?_)
              exact wq_s trivial
    · refine wq_v (fun v5_q23940 h_v5_q23940 => ?_)
      unfold fX12_spelled_J39
      have b_23941 := i32b x3
      refine wq_eq (fun hc_23942 => ?_) (fun hc_23943 => ?_)
      · unfold fX12_spelled_J55
        have b_23944 := i32b x4
        refine wq_eq (fun hc_23945 => ?_) (fun hc_23946 => ?_)
        · unfold fX12_spelled_J73
          have b_23947 := i32b x5
          refine wq_eq (fun hc_23948 => ?_) (fun hc_23949 => ?_)
          · unfold fX12_spelled_J91
            have b_23950 := i32b x6
            refine wq_eq (fun hc_23951 => ?_) (fun hc_23952 => ?_)
            · exact wq_s trivial
            · refine wq_v (fun v1_q23953 h_v1_q23953 => ?_)
              exact wq_s trivial
          · refine wq_v (fun v2_q23954 h_v2_q23954 => ?_)
            unfold fX12_spelled_J91
            have b_23955 := i32b x6
            refine wq_eq (fun hc_23956 => ?_) (fun hc_23957 => ?_)
            · exact wq_s trivial
            · refine wq_v (fun v1_q23958 h_v1_q23958 => ?_)
              exact wq_s trivial
        · refine wq_v (fun v3_q23959 h_v3_q23959 => ?_)
          unfold fX12_spelled_J73
          have b_23960 := i32b x5
          refine wq_eq (fun hc_23961 => ?_) (fun hc_23962 => ?_)
          · unfold fX12_spelled_J91
            have b_23963 := i32b x6
            refine wq_eq (fun hc_23964 => ?_) (fun hc_23965 => ?_)
            · exact wq_s trivial
            · refine wq_v (fun v1_q23966 h_v1_q23966 => ?_)
              exact wq_s trivial
          · refine wq_v (fun v2_q23967 h_v2_q23967 => ?_)
            unfold fX12_spelled_J91
            have b_23968 := i32b x6
            refine wq_eq (fun hc_23969 => ?_) (fun hc_23970 => ?_)
            · exact wq_s trivial
            · refine wq_v (fun v1_q23971 h_v1_q23971 => ?_)
              exact wq_s trivial
      · refine wq_v (fun v4_q23972 h_v4_q23972 => ?_)
        unfold fX12_spelled_J55
        have b_23973 := i32b x4
        refine wq_eq (fun hc_23974 => ?_) (fun hc_23975 => ?_)
        · unfold fX12_spelled_J73
          have b_23976 := i32b x5
          refine wq_eq (fun hc_23977 => ?_) (fun hc_23978 => ?_)
          · unfold fX12_spelled_J91
            have b_23979 := i32b x6
            refine wq_eq (fun hc_23980 => ?_) (fun hc_23981 => ?_)
            · exact wq_s trivial
            · refine wq_v (fun v1_q23982 h_v1_q23982 => ?_)
              exact wq_s trivial
          · refine wq_v (fun v2_q23983 h_v2_q23983 => ?_)
            unfold fX12_spelled_J91
            have b_23984 := i32b x6
            refine wq_eq (fun hc_23985 => ?_) (fun hc_23986 => ?_)
            · exact wq_s trivial
            · refine wq_v (fun v1_q23987 h_v1_q23987 => ?_)
              exact wq_s trivial
        · refine wq_v (fun v3_q23988 h_v3_q23988 => ?_)
          unfold fX12_spelled_J73
          have b_23989 := i32b x5
          refine wq_eq (fun hc_23990 => ?_) (fun hc_23991 => ?_)
          · unfold fX12_spelled_J91
            have b_23992 := i32b x6
            refine wq_eq (fun hc_23993 => ?_) (fun hc_23994 => ?_)
            · exact wq_s trivial
            · refine wq_v (fun v1_q23995 h_v1_q23995 => ?_)
              exact wq_s trivial
          · refine wq_v (fun v2_q23996 h_v2_q23996 => ?_)
            unfold fX12_spelled_J91
            have b_23997 := i32b x6
            refine wq_eq (fun hc_23998 => ?_) (fun hc_23999 => ?_)
            · exact wq_s trivial
            · refine wq_v (fun v1_q24000 h_v1_q24000 => ?_)
              exact wq_s trivial

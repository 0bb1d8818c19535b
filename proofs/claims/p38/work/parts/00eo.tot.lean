set_option maxHeartbeats 4000000 in
theorem tt_fX12_on_L37 {N : Nat} (hN : 3000000000 ≤ N) (x1 : Int32) (h_x1 : 0 ≤ x1.toInt ∧ x1.toInt ≤ 50000)  : ∀ (fu : Nat) (I0_l37 : (Nat → Int32)) (L0_l37 : Int64) (M0_l37 : (Nat → Nat → Int32)) (y37_2 : Int32), (0 ≤ y37_2.toInt ∧ y37_2.toInt ≤ 50000) → (KX12 I0_l37 M0_l37) → (50000 - y37_2.toInt) < (fu : Int) → wq (fX12_on_L37 N x1 fu I0_l37 L0_l37 M0_l37 y37_2) (fun r => (0 ≤ r.1.toInt ∧ r.1.toInt ≤ 50000) ∧ KX12 r.2.1 r.2.2.2 ∧ True) := by
  intro fu
  induction fu with
  | zero => intro I0_l37 L0_l37 M0_l37 y37_2 h_y37_2 k_I0_l37 hm; exfalso; omega
  | succ fu ih =>
    intro I0_l37 L0_l37 M0_l37 y37_2 h_y37_2 k_I0_l37 hm
    rw [fX12_on_L37.eq_2]
    refine wq_le (fun hc_33970 => ?_) (fun hc_33971 => ?_)
    · exact wq_s ⟨(show 0 ≤ y37_2.toInt ∧ y37_2.toInt ≤ 50000 from ⟨by omega, by omega⟩), k_I0_l37, trivial⟩
    · have l_2 := il_2
      refine wq_in (n := 7) ⟨by omega, by omega⟩ ?_
      have l_1000000 := il_1000000
      have t_33972 : 0 ≤ (M0_l37 18 (2 : Int32).toNatClampNeg).toInt ∧ (M0_l37 18 (2 : Int32).toNatClampNeg).toInt ≤ 1000001 := (KX12.ese k_I0_l37).2.2
      refine wq_lt (fun hc_33973 => ?_) (fun hc_33974 => ?_)
      · exact wq_s ⟨(show 0 ≤ y37_2.toInt ∧ y37_2.toInt ≤ 50000 from ⟨by omega, by omega⟩), k_I0_l37, trivial⟩
      · refine wq_in (n := 7) ⟨by omega, by omega⟩ ?_
        refine wq_v (fun v13_q33975 h_v13_q33975 => ?_)
        have t_v13_q33975 := congrArg Int32.toInt h_v13_q33975
        have l_0 := il_0
        refine wq_in (n := 7) ⟨by omega, by omega⟩ ?_
        have l_1 := il_1
        refine wq_in (n := 7) ⟨by omega, by omega⟩ ?_
        have l_3 := il_3
        refine wq_in (n := 7) ⟨by omega, by omega⟩ ?_
        have l_m1 := il_m1
        refine wq_eq (fun hc_33976 => ?_) (fun hc_33977 => ?_)
        · unfold fX12_on_J96
          have t_33978 : 0 ≤ (M0_l37 18 (0 : Int32).toNatClampNeg).toInt ∧ (M0_l37 18 (0 : Int32).toNatClampNeg).toInt ≤ 119 := (KX12.ese k_I0_l37).1
          have t_33979 : 0 ≤ (M0_l37 18 (1 : Int32).toNatClampNeg).toInt ∧ (M0_l37 18 (1 : Int32).toNatClampNeg).toInt ≤ 3 := (KX12.ese k_I0_l37).2.1
          have l_999 := il_999
          refine wq_b (tt_fX12_costOn hN I0_l37 L0_l37 M0_l37 (M0_l37 18 (0 : Int32).toNatClampNeg) (M0_l37 18 (1 : Int32).toNatClampNeg) v13_q33975 (999 : Int32) ⟨by omega, by omega⟩ ⟨by omega, by omega⟩ k_I0_l37) (fun r12_q33980 h_r12_q33980 => ?_)
          obtain ⟨h_r12_q33980_0, -⟩ := h_r12_q33980
          refine wq_in (n := 7) ⟨by omega, by omega⟩ ?_
          refine wq_eq (fun hc_33981 => ?_) (fun hc_33982 => ?_)
          · unfold fX12_on_J122
            refine wq_in (n := 7) ⟨by omega, by omega⟩ ?_
            refine wq_v (fun M0_9_q33983 h_M0_9_q33983 => ?_)
            have k_M0_9_q33983 : KX12 I0_l37 M0_9_q33983 := by rw [h_M0_9_q33983]; exact KX12.sm18 k_I0_l37 (SR.um (KX12.ese k_I0_l37) (fun q => absurd q (by decide)) (fun q => absurd q (by decide)) (fun q => absurd q (by decide)))
            have l_4 := il_4
            refine wq_in (n := 7) ⟨by omega, by omega⟩ ?_
            refine wq_v (fun M0_10_q33984 h_M0_10_q33984 => ?_)
            have k_M0_10_q33984 : KX12 I0_l37 M0_10_q33984 := by rw [h_M0_10_q33984]; exact KX12.sm18 k_M0_9_q33983 (SR.um (KX12.ese k_M0_9_q33983) (fun q => absurd q (by decide)) (fun q => absurd q (by decide)) (fun q => absurd q (by decide)))
            have l_5 := il_5
            refine wq_in (n := 7) ⟨by omega, by omega⟩ ?_
            refine wq_v (fun M0_11_q33985 h_M0_11_q33985 => ?_)
            have k_M0_11_q33985 : KX12 I0_l37 M0_11_q33985 := by rw [h_M0_11_q33985]; exact KX12.sm18 k_M0_10_q33984 (SR.um (KX12.ese k_M0_10_q33984) (fun q => absurd q (by decide)) (fun q => absurd q (by decide)) (fun q => absurd q (by decide)))
            unfold fX12_on_J144
            refine wq_in (n := 7) ⟨by omega, by omega⟩ ?_
            have t_33986 : (M0_9_q33983 18 (3 : Int32).toNatClampNeg).toInt = r12_q33980.toInt := by rw [h_M0_9_q33983]; rfl
            have t_33987 : (M0_10_q33984 18 (3 : Int32).toNatClampNeg).toInt = (M0_9_q33983 18 (3 : Int32).toNatClampNeg).toInt := by rw [h_M0_10_q33984]; rfl
            have t_33988 : (M0_11_q33985 18 (3 : Int32).toNatClampNeg).toInt = (M0_10_q33984 18 (3 : Int32).toNatClampNeg).toInt := by rw [h_M0_11_q33985]; rfl
            refine wq_eq (fun hc_33989 => ?_) (fun hc_33990 => ?_)
            · refine wq_in (n := 7) ⟨by omega, by omega⟩ ?_
              refine wq_in (n := 7) ⟨by omega, by omega⟩ ?_
              refine wq_v (fun M0_7_q33991 h_M0_7_q33991 => ?_)
              have k_M0_7_q33991 : KX12 I0_l37 M0_7_q33991 := by rw [h_M0_7_q33991]; exact KX12.sm18 k_M0_11_q33985 (SR.um (KX12.ese k_M0_11_q33985) (fun q => absurd q (by decide)) (fun q => absurd q (by decide)) (fun q => absurd q (by decide)))
              have l_6 := il_6
              refine wq_in (n := 7) ⟨by omega, by omega⟩ ?_
              refine wq_v (fun M0_8_q33992 h_M0_8_q33992 => ?_)
              have k_M0_8_q33992 : KX12 I0_l37 M0_8_q33992 := by rw [h_M0_8_q33992]; exact KX12.sm18 k_M0_7_q33991 (SR.um (KX12.ese k_M0_7_q33991) (fun q => absurd q (by decide)) (fun q => absurd q (by decide)) (fun q => absurd q (by decide)))
              unfold fX12_on_J173
              refine wq_in (n := 7) ⟨by omega, by omega⟩ ?_
              refine wq_in (n := 7) ⟨by omega, by omega⟩ ?_
              refine wq_v (fun M0_5_q33993 h_M0_5_q33993 => ?_)
              have t_33994 : (M0_9_q33983 18 (2 : Int32).toNatClampNeg).toInt = (M0_l37 18 (2 : Int32).toNatClampNeg).toInt := by rw [h_M0_9_q33983]; rfl
              have t_33995 : (M0_10_q33984 18 (2 : Int32).toNatClampNeg).toInt = (M0_9_q33983 18 (2 : Int32).toNatClampNeg).toInt := by rw [h_M0_10_q33984]; rfl
              have t_33996 : (M0_11_q33985 18 (2 : Int32).toNatClampNeg).toInt = (M0_10_q33984 18 (2 : Int32).toNatClampNeg).toInt := by rw [h_M0_11_q33985]; rfl
              have t_33997 : (M0_7_q33991 18 (2 : Int32).toNatClampNeg).toInt = (M0_11_q33985 18 (2 : Int32).toNatClampNeg).toInt := by rw [h_M0_7_q33991]; rfl
              have t_33998 : (M0_8_q33992 18 (2 : Int32).toNatClampNeg).toInt = (M0_7_q33991 18 (2 : Int32).toNatClampNeg).toInt := by rw [h_M0_8_q33992]; rfl
              have t_33999 := ia_add (M0_8_q33992 18 (2 : Int32).toNatClampNeg) (1 : Int32) (by omega) (by omega)
              have k_M0_5_q33993 : KX12 I0_l37 M0_5_q33993 := by rw [h_M0_5_q33993]; exact KX12.sm18 k_M0_8_q33992 (SR.um (KX12.ese k_M0_8_q33992) (fun q => absurd q (by decide)) (fun q => absurd q (by decide)) (fun _ => ⟨by omega, by omega⟩))
              have t_34001 := ia_add y37_2 (1 : Int32) (by omega) (by omega)
              refine wq_v (fun v6_q34000 h_v6_q34000 => ?_)
              have t_v6_q34000 := congrArg Int32.toInt h_v6_q34000
              exact ih I0_l37 L0_l37 M0_5_q33993 v6_q34000 ⟨by omega, by omega⟩ k_M0_5_q33993 (by omega)
            · unfold fX12_on_J173
              refine wq_in (n := 7) ⟨by omega, by omega⟩ ?_
              refine wq_in (n := 7) ⟨by omega, by omega⟩ ?_
              refine wq_v (fun M0_5_q34002 h_M0_5_q34002 => ?_)
              have t_34003 : (M0_9_q33983 18 (2 : Int32).toNatClampNeg).toInt = (M0_l37 18 (2 : Int32).toNatClampNeg).toInt := by rw [h_M0_9_q33983]; rfl
              have t_34004 : (M0_10_q33984 18 (2 : Int32).toNatClampNeg).toInt = (M0_9_q33983 18 (2 : Int32).toNatClampNeg).toInt := by rw [h_M0_10_q33984]; rfl
              have t_34005 : (M0_11_q33985 18 (2 : Int32).toNatClampNeg).toInt = (M0_10_q33984 18 (2 : Int32).toNatClampNeg).toInt := by rw [h_M0_11_q33985]; rfl
              have t_34006 := ia_add (M0_11_q33985 18 (2 : Int32).toNatClampNeg) (1 : Int32) (by omega) (by omega)
              have k_M0_5_q34002 : KX12 I0_l37 M0_5_q34002 := by rw [h_M0_5_q34002]; exact KX12.sm18 k_M0_11_q33985 (SR.um (KX12.ese k_M0_11_q33985) (fun q => absurd q (by decide)) (fun q => absurd q (by decide)) (fun _ => ⟨by omega, by omega⟩))
              have t_34008 := ia_add y37_2 (1 : Int32) (by omega) (by omega)
              refine wq_v (fun v6_q34007 h_v6_q34007 => ?_)
              have t_v6_q34007 := congrArg Int32.toInt h_v6_q34007
              exact ih I0_l37 L0_l37 M0_5_q34002 v6_q34007 ⟨by omega, by omega⟩ k_M0_5_q34002 (by omega)
          · exfalso; omega
        · refine wq_in (n := 7) ⟨by omega, by omega⟩ ?_
          unfold fX12_on_J96
          have t_34009 : 0 ≤ (M0_l37 18 (0 : Int32).toNatClampNeg).toInt ∧ (M0_l37 18 (0 : Int32).toNatClampNeg).toInt ≤ 119 := (KX12.ese k_I0_l37).1
          have t_34010 : 0 ≤ (M0_l37 18 (1 : Int32).toNatClampNeg).toInt ∧ (M0_l37 18 (1 : Int32).toNatClampNeg).toInt ≤ 3 := (KX12.ese k_I0_l37).2.1
          refine wq_b (tt_fX12_costOn hN I0_l37 L0_l37 M0_l37 (M0_l37 18 (0 : Int32).toNatClampNeg) (M0_l37 18 (1 : Int32).toNatClampNeg) v13_q33975 (M0_l37 18 (3 : Int32).toNatClampNeg) ⟨by omega, by omega⟩ ⟨by omega, by omega⟩ k_I0_l37) (fun r12_q34011 h_r12_q34011 => ?_)
          obtain ⟨h_r12_q34011_0, -⟩ := h_r12_q34011
          refine wq_in (n := 7) ⟨by omega, by omega⟩ ?_
          refine wq_eq (fun hc_34012 => ?_) (fun hc_34013 => ?_)
          · unfold fX12_on_J122
            refine wq_in (n := 7) ⟨by omega, by omega⟩ ?_
            refine wq_v (fun M0_9_q34014 h_M0_9_q34014 => ?_)
            have k_M0_9_q34014 : KX12 I0_l37 M0_9_q34014 := by rw [h_M0_9_q34014]; exact KX12.sm18 k_I0_l37 (SR.um (KX12.ese k_I0_l37) (fun q => absurd q (by decide)) (fun q => absurd q (by decide)) (fun q => absurd q (by decide)))
            have l_4 := il_4
            refine wq_in (n := 7) ⟨by omega, by omega⟩ ?_
            refine wq_v (fun M0_10_q34015 h_M0_10_q34015 => ?_)
            have k_M0_10_q34015 : KX12 I0_l37 M0_10_q34015 := by rw [h_M0_10_q34015]; exact KX12.sm18 k_M0_9_q34014 (SR.um (KX12.ese k_M0_9_q34014) (fun q => absurd q (by decide)) (fun q => absurd q (by decide)) (fun q => absurd q (by decide)))
            have l_5 := il_5
            refine wq_in (n := 7) ⟨by omega, by omega⟩ ?_
            refine wq_v (fun M0_11_q34016 h_M0_11_q34016 => ?_)
            have k_M0_11_q34016 : KX12 I0_l37 M0_11_q34016 := by rw [h_M0_11_q34016]; exact KX12.sm18 k_M0_10_q34015 (SR.um (KX12.ese k_M0_10_q34015) (fun q => absurd q (by decide)) (fun q => absurd q (by decide)) (fun q => absurd q (by decide)))
            unfold fX12_on_J144
            refine wq_in (n := 7) ⟨by omega, by omega⟩ ?_
            have t_34017 : (M0_9_q34014 18 (3 : Int32).toNatClampNeg).toInt = r12_q34011.toInt := by rw [h_M0_9_q34014]; rfl
            have t_34018 : (M0_10_q34015 18 (3 : Int32).toNatClampNeg).toInt = (M0_9_q34014 18 (3 : Int32).toNatClampNeg).toInt := by rw [h_M0_10_q34015]; rfl
            have t_34019 : (M0_11_q34016 18 (3 : Int32).toNatClampNeg).toInt = (M0_10_q34015 18 (3 : Int32).toNatClampNeg).toInt := by rw [h_M0_11_q34016]; rfl
            refine wq_eq (fun hc_34020 => ?_) (fun hc_34021 => ?_)
            · refine wq_in (n := 7) ⟨by omega, by omega⟩ ?_
              refine wq_in (n := 7) ⟨by omega, by omega⟩ ?_
              refine wq_v (fun M0_7_q34022 h_M0_7_q34022 => ?_)
              have k_M0_7_q34022 : KX12 I0_l37 M0_7_q34022 := by rw [h_M0_7_q34022]; exact KX12.sm18 k_M0_11_q34016 (SR.um (KX12.ese k_M0_11_q34016) (fun q => absurd q (by decide)) (fun q => absurd q (by decide)) (fun q => absurd q (by decide)))
              have l_6 := il_6
              refine wq_in (n := 7) ⟨by omega, by omega⟩ ?_
              refine wq_v (fun M0_8_q34023 h_M0_8_q34023 => ?_)
              have k_M0_8_q34023 : KX12 I0_l37 M0_8_q34023 := by rw [h_M0_8_q34023]; exact KX12.sm18 k_M0_7_q34022 (SR.um (KX12.ese k_M0_7_q34022) (fun q => absurd q (by decide)) (fun q => absurd q (by decide)) (fun q => absurd q (by decide)))
              unfold fX12_on_J173
              refine wq_in (n := 7) ⟨by omega, by omega⟩ ?_
              refine wq_in (n := 7) ⟨by omega, by omega⟩ ?_
              refine wq_v (fun M0_5_q34024 h_M0_5_q34024 => ?_)
              have t_34025 : (M0_9_q34014 18 (2 : Int32).toNatClampNeg).toInt = (M0_l37 18 (2 : Int32).toNatClampNeg).toInt := by rw [h_M0_9_q34014]; rfl
              have t_34026 : (M0_10_q34015 18 (2 : Int32).toNatClampNeg).toInt = (M0_9_q34014 18 (2 : Int32).toNatClampNeg).toInt := by rw [h_M0_10_q34015]; rfl
              have t_34027 : (M0_11_q34016 18 (2 : Int32).toNatClampNeg).toInt = (M0_10_q34015 18 (2 : Int32).toNatClampNeg).toInt := by rw [h_M0_11_q34016]; rfl
              have t_34028 : (M0_7_q34022 18 (2 : Int32).toNatClampNeg).toInt = (M0_11_q34016 18 (2 : Int32).toNatClampNeg).toInt := by rw [h_M0_7_q34022]; rfl
              have t_34029 : (M0_8_q34023 18 (2 : Int32).toNatClampNeg).toInt = (M0_7_q34022 18 (2 : Int32).toNatClampNeg).toInt := by rw [h_M0_8_q34023]; rfl
              have t_34030 := ia_add (M0_8_q34023 18 (2 : Int32).toNatClampNeg) (1 : Int32) (by omega) (by omega)
              have k_M0_5_q34024 : KX12 I0_l37 M0_5_q34024 := by rw [h_M0_5_q34024]; exact KX12.sm18 k_M0_8_q34023 (SR.um (KX12.ese k_M0_8_q34023) (fun q => absurd q (by decide)) (fun q => absurd q (by decide)) (fun _ => ⟨by omega, by omega⟩))
              have t_34032 := ia_add y37_2 (1 : Int32) (by omega) (by omega)
              refine wq_v (fun v6_q34031 h_v6_q34031 => ?_)
              have t_v6_q34031 := congrArg Int32.toInt h_v6_q34031
              exact ih I0_l37 L0_l37 M0_5_q34024 v6_q34031 ⟨by omega, by omega⟩ k_M0_5_q34024 (by omega)
            · unfold fX12_on_J173
              refine wq_in (n := 7) ⟨by omega, by omega⟩ ?_
              refine wq_in (n := 7) ⟨by omega, by omega⟩ ?_
              refine wq_v (fun M0_5_q34033 h_M0_5_q34033 => ?_)
              have t_34034 : (M0_9_q34014 18 (2 : Int32).toNatClampNeg).toInt = (M0_l37 18 (2 : Int32).toNatClampNeg).toInt := by rw [h_M0_9_q34014]; rfl
              have t_34035 : (M0_10_q34015 18 (2 : Int32).toNatClampNeg).toInt = (M0_9_q34014 18 (2 : Int32).toNatClampNeg).toInt := by rw [h_M0_10_q34015]; rfl
              have t_34036 : (M0_11_q34016 18 (2 : Int32).toNatClampNeg).toInt = (M0_10_q34015 18 (2 : Int32).toNatClampNeg).toInt := by rw [h_M0_11_q34016]; rfl
              have t_34037 := ia_add (M0_11_q34016 18 (2 : Int32).toNatClampNeg) (1 : Int32) (by omega) (by omega)
              have k_M0_5_q34033 : KX12 I0_l37 M0_5_q34033 := by rw [h_M0_5_q34033]; exact KX12.sm18 k_M0_11_q34016 (SR.um (KX12.ese k_M0_11_q34016) (fun q => absurd q (by decide)) (fun q => absurd q (by decide)) (fun _ => ⟨by omega, by omega⟩))
              have t_34039 := ia_add y37_2 (1 : Int32) (by omega) (by omega)
              refine wq_v (fun v6_q34038 h_v6_q34038 => ?_)
              have t_v6_q34038 := congrArg Int32.toInt h_v6_q34038
              exact ih I0_l37 L0_l37 M0_5_q34033 v6_q34038 ⟨by omega, by omega⟩ k_M0_5_q34033 (by omega)
          · refine wq_in (n := 7) ⟨by omega, by omega⟩ ?_
            refine wq_le (fun hc_34040 => ?_) (fun hc_34041 => ?_)
            · unfold fX12_on_J144
              refine wq_in (n := 7) ⟨by omega, by omega⟩ ?_
              refine wq_eq (fun hc_34042 => ?_) (fun hc_34043 => ?_)
              · have l_4 := il_4
                refine wq_in (n := 7) ⟨by omega, by omega⟩ ?_
                refine wq_in (n := 7) ⟨by omega, by omega⟩ ?_
                refine wq_v (fun M0_7_q34044 h_M0_7_q34044 => ?_)
                have k_M0_7_q34044 : KX12 I0_l37 M0_7_q34044 := by rw [h_M0_7_q34044]; exact KX12.sm18 k_I0_l37 (SR.um (KX12.ese k_I0_l37) (fun q => absurd q (by decide)) (fun q => absurd q (by decide)) (fun q => absurd q (by decide)))
                have l_6 := il_6
                refine wq_in (n := 7) ⟨by omega, by omega⟩ ?_
                refine wq_v (fun M0_8_q34045 h_M0_8_q34045 => ?_)
                have k_M0_8_q34045 : KX12 I0_l37 M0_8_q34045 := by rw [h_M0_8_q34045]; exact KX12.sm18 k_M0_7_q34044 (SR.um (KX12.ese k_M0_7_q34044) (fun q => absurd q (by decide)) (fun q => absurd q (by decide)) (fun q => absurd q (by decide)))
                unfold fX12_on_J173
                refine wq_in (n := 7) ⟨by omega, by omega⟩ ?_
                refine wq_in (n := 7) ⟨by omega, by omega⟩ ?_
                refine wq_v (fun M0_5_q34046 h_M0_5_q34046 => ?_)
                have t_34047 : (M0_7_q34044 18 (2 : Int32).toNatClampNeg).toInt = (M0_l37 18 (2 : Int32).toNatClampNeg).toInt := by rw [h_M0_7_q34044]; rfl
                have t_34048 : (M0_8_q34045 18 (2 : Int32).toNatClampNeg).toInt = (M0_7_q34044 18 (2 : Int32).toNatClampNeg).toInt := by rw [h_M0_8_q34045]; rfl
                have t_34049 := ia_add (M0_8_q34045 18 (2 : Int32).toNatClampNeg) (1 : Int32) (by omega) (by omega)
                have k_M0_5_q34046 : KX12 I0_l37 M0_5_q34046 := by rw [h_M0_5_q34046]; exact KX12.sm18 k_M0_8_q34045 (SR.um (KX12.ese k_M0_8_q34045) (fun q => absurd q (by decide)) (fun q => absurd q (by decide)) (fun _ => ⟨by omega, by omega⟩))
                have t_34051 := ia_add y37_2 (1 : Int32) (by omega) (by omega)
                refine wq_v (fun v6_q34050 h_v6_q34050 => ?_)
                have t_v6_q34050 := congrArg Int32.toInt h_v6_q34050
                exact ih I0_l37 L0_l37 M0_5_q34046 v6_q34050 ⟨by omega, by omega⟩ k_M0_5_q34046 (by omega)
              · unfold fX12_on_J173
                refine wq_in (n := 7) ⟨by omega, by omega⟩ ?_
                refine wq_in (n := 7) ⟨by omega, by omega⟩ ?_
                refine wq_v (fun M0_5_q34052 h_M0_5_q34052 => ?_)
                have t_34053 := ia_add (M0_l37 18 (2 : Int32).toNatClampNeg) (1 : Int32) (by omega) (by omega)
                have k_M0_5_q34052 : KX12 I0_l37 M0_5_q34052 := by rw [h_M0_5_q34052]; exact KX12.sm18 k_I0_l37 (SR.um (KX12.ese k_I0_l37) (fun q => absurd q (by decide)) (fun q => absurd q (by decide)) (fun _ => ⟨by omega, by omega⟩))
                have t_34055 := ia_add y37_2 (1 : Int32) (by omega) (by omega)
                refine wq_v (fun v6_q34054 h_v6_q34054 => ?_)
                have t_v6_q34054 := congrArg Int32.toInt h_v6_q34054
                exact ih I0_l37 L0_l37 M0_5_q34052 v6_q34054 ⟨by omega, by omega⟩ k_M0_5_q34052 (by omega)
            · unfold fX12_on_J122
              refine wq_in (n := 7) ⟨by omega, by omega⟩ ?_
              refine wq_v (fun M0_9_q34056 h_M0_9_q34056 => ?_)
              have k_M0_9_q34056 : KX12 I0_l37 M0_9_q34056 := by rw [h_M0_9_q34056]; exact KX12.sm18 k_I0_l37 (SR.um (KX12.ese k_I0_l37) (fun q => absurd q (by decide)) (fun q => absurd q (by decide)) (fun q => absurd q (by decide)))
              have l_4 := il_4
              refine wq_in (n := 7) ⟨by omega, by omega⟩ ?_
              refine wq_v (fun M0_10_q34057 h_M0_10_q34057 => ?_)
              have k_M0_10_q34057 : KX12 I0_l37 M0_10_q34057 := by rw [h_M0_10_q34057]; exact KX12.sm18 k_M0_9_q34056 (SR.um (KX12.ese k_M0_9_q34056) (fun q => absurd q (by decide)) (fun q => absurd q (by decide)) (fun q => absurd q (by decide)))
              have l_5 := il_5
              refine wq_in (n := 7) ⟨by omega, by omega⟩ ?_
              refine wq_v (fun M0_11_q34058 h_M0_11_q34058 => ?_)
              have k_M0_11_q34058 : KX12 I0_l37 M0_11_q34058 := by rw [h_M0_11_q34058]; exact KX12.sm18 k_M0_10_q34057 (SR.um (KX12.ese k_M0_10_q34057) (fun q => absurd q (by decide)) (fun q => absurd q (by decide)) (fun q => absurd q (by decide)))
              unfold fX12_on_J144
              refine wq_in (n := 7) ⟨by omega, by omega⟩ ?_
              have t_34059 : (M0_9_q34056 18 (3 : Int32).toNatClampNeg).toInt = r12_q34011.toInt := by rw [h_M0_9_q34056]; rfl
              have t_34060 : (M0_10_q34057 18 (3 : Int32).toNatClampNeg).toInt = (M0_9_q34056 18 (3 : Int32).toNatClampNeg).toInt := by rw [h_M0_10_q34057]; rfl
              have t_34061 : (M0_11_q34058 18 (3 : Int32).toNatClampNeg).toInt = (M0_10_q34057 18 (3 : Int32).toNatClampNeg).toInt := by rw [h_M0_11_q34058]; rfl
              refine wq_eq (fun hc_34062 => ?_) (fun hc_34063 => ?_)
              · refine wq_in (n := 7) ⟨by omega, by omega⟩ ?_
                refine wq_in (n := 7) ⟨by omega, by omega⟩ ?_
                refine wq_v (fun M0_7_q34064 h_M0_7_q34064 => ?_)
                have k_M0_7_q34064 : KX12 I0_l37 M0_7_q34064 := by rw [h_M0_7_q34064]; exact KX12.sm18 k_M0_11_q34058 (SR.um (KX12.ese k_M0_11_q34058) (fun q => absurd q (by decide)) (fun q => absurd q (by decide)) (fun q => absurd q (by decide)))
                have l_6 := il_6
                refine wq_in (n := 7) ⟨by omega, by omega⟩ ?_
                refine wq_v (fun M0_8_q34065 h_M0_8_q34065 => ?_)
                have k_M0_8_q34065 : KX12 I0_l37 M0_8_q34065 := by rw [h_M0_8_q34065]; exact KX12.sm18 k_M0_7_q34064 (SR.um (KX12.ese k_M0_7_q34064) (fun q => absurd q (by decide)) (fun q => absurd q (by decide)) (fun q => absurd q (by decide)))
                unfold fX12_on_J173
                refine wq_in (n := 7) ⟨by omega, by omega⟩ ?_
                refine wq_in (n := 7) ⟨by omega, by omega⟩ ?_
                refine wq_v (fun M0_5_q34066 h_M0_5_q34066 => ?_)
                have t_34067 : (M0_9_q34056 18 (2 : Int32).toNatClampNeg).toInt = (M0_l37 18 (2 : Int32).toNatClampNeg).toInt := by rw [h_M0_9_q34056]; rfl
                have t_34068 : (M0_10_q34057 18 (2 : Int32).toNatClampNeg).toInt = (M0_9_q34056 18 (2 : Int32).toNatClampNeg).toInt := by rw [h_M0_10_q34057]; rfl
                have t_34069 : (M0_11_q34058 18 (2 : Int32).toNatClampNeg).toInt = (M0_10_q34057 18 (2 : Int32).toNatClampNeg).toInt := by rw [h_M0_11_q34058]; rfl
                have t_34070 : (M0_7_q34064 18 (2 : Int32).toNatClampNeg).toInt = (M0_11_q34058 18 (2 : Int32).toNatClampNeg).toInt := by rw [h_M0_7_q34064]; rfl
                have t_34071 : (M0_8_q34065 18 (2 : Int32).toNatClampNeg).toInt = (M0_7_q34064 18 (2 : Int32).toNatClampNeg).toInt := by rw [h_M0_8_q34065]; rfl
                have t_34072 := ia_add (M0_8_q34065 18 (2 : Int32).toNatClampNeg) (1 : Int32) (by omega) (by omega)
                have k_M0_5_q34066 : KX12 I0_l37 M0_5_q34066 := by rw [h_M0_5_q34066]; exact KX12.sm18 k_M0_8_q34065 (SR.um (KX12.ese k_M0_8_q34065) (fun q => absurd q (by decide)) (fun q => absurd q (by decide)) (fun _ => ⟨by omega, by omega⟩))
                have t_34074 := ia_add y37_2 (1 : Int32) (by omega) (by omega)
                refine wq_v (fun v6_q34073 h_v6_q34073 => ?_)
                have t_v6_q34073 := congrArg Int32.toInt h_v6_q34073
                exact ih I0_l37 L0_l37 M0_5_q34066 v6_q34073 ⟨by omega, by omega⟩ k_M0_5_q34066 (by omega)
              · unfold fX12_on_J173
                refine wq_in (n := 7) ⟨by omega, by omega⟩ ?_
                refine wq_in (n := 7) ⟨by omega, by omega⟩ ?_
                refine wq_v (fun M0_5_q34075 h_M0_5_q34075 => ?_)
                have t_34076 : (M0_9_q34056 18 (2 : Int32).toNatClampNeg).toInt = (M0_l37 18 (2 : Int32).toNatClampNeg).toInt := by rw [h_M0_9_q34056]; rfl
                have t_34077 : (M0_10_q34057 18 (2 : Int32).toNatClampNeg).toInt = (M0_9_q34056 18 (2 : Int32).toNatClampNeg).toInt := by rw [h_M0_10_q34057]; rfl
                have t_34078 : (M0_11_q34058 18 (2 : Int32).toNatClampNeg).toInt = (M0_10_q34057 18 (2 : Int32).toNatClampNeg).toInt := by rw [h_M0_11_q34058]; rfl
                have t_34079 := ia_add (M0_11_q34058 18 (2 : Int32).toNatClampNeg) (1 : Int32) (by omega) (by omega)
                have k_M0_5_q34075 : KX12 I0_l37 M0_5_q34075 := by rw [h_M0_5_q34075]; exact KX12.sm18 k_M0_11_q34058 (SR.um (KX12.ese k_M0_11_q34058) (fun q => absurd q (by decide)) (fun q => absurd q (by decide)) (fun _ => ⟨by omega, by omega⟩))
                have t_34081 := ia_add y37_2 (1 : Int32) (by omega) (by omega)
                refine wq_v (fun v6_q34080 h_v6_q34080 => ?_)
                have t_v6_q34080 := congrArg Int32.toInt h_v6_q34080
                exact ih I0_l37 L0_l37 M0_5_q34075 v6_q34080 ⟨by omega, by omega⟩ k_M0_5_q34075 (by omega)
set_option maxHeartbeats 4000000 in
theorem tt_fX12_on {N : Nat} (hN : 3000000000 ≤ N) (I0 : Nat → Int32) (L0 : Int64) (M0 : Nat → Nat → Int32) (x1 : Int32) (k_I0 : KX12 I0 M0) : wq (fX12_on N I0 L0 M0 x1) (fun r => (0 ≤ r.1.toInt ∧ r.1.toInt ≤ 50000) ∧ KX12 r.2.1 r.2.2.2 ∧ True) := by
  unfold fX12_on
  refine wq_v (fun I0_1_q34082 h_I0_1_q34082 => ?_)
  have k_I0_1_q34082 : KX12 I0_1_q34082 M0 := by rw [h_I0_1_q34082]; exact KX12.si0 k_I0
  have t_34083 := KX12.i16 k_I0
  have t_34084 : (I0_1_q34082 16).toInt = (I0 16).toInt := by rw [h_I0_1_q34082]; rfl
  have l_1 := il_1
  refine wq_b (tt_fX12_right hN I0_1_q34082 L0 M0 (I0_1_q34082 16) (1 : Int32) ⟨by omega, by omega⟩ k_I0_1_q34082) (fun r2_q34085 h_r2_q34085 => ?_)
  obtain ⟨h_r2_q34085_0, h_r2_q34085_1, h_r2_q34085_2, h_r2_q34085_3, -⟩ := h_r2_q34085
  have t_34086 := KX12.i1 h_r2_q34085_3
  have t_34087 := KX12.i1 k_I0
  have t_34088 : (I0_1_q34082 1).toInt = (I0 1).toInt := by rw [h_I0_1_q34082]; rfl
  have l_0 := il_0
  refine wq_eq (fun hc_34089 => ?_) (fun hc_34090 => ?_)
  · exact wq_s ⟨(show 0 ≤ (0 : Int32).toInt ∧ (0 : Int32).toInt ≤ 50000 from ⟨by omega, by omega⟩), h_r2_q34085_3, trivial⟩
  · have b_34091 := i32b x1
    have l_50000 := il_50000
    refine wq_b (tt_fX12_within hN x1 (0 : Int32) (50000 : Int32)) (fun r3_q34092 h_r3_q34092 => ?_)
    obtain ⟨h_r3_q34092_0, h_r3_q34092_1, -⟩ := h_r3_q34092
    have l_2 := il_2
    refine wq_b (tt_fX12_right hN r2_q34085.2.1 r2_q34085.2.2.1 r2_q34085.2.2.2 r3_q34092 (2 : Int32) ⟨by omega, by omega⟩ h_r2_q34085_3) (fun r4_q34093 h_r4_q34093 => ?_)
    obtain ⟨h_r4_q34093_0, h_r4_q34093_1, h_r4_q34093_2, h_r4_q34093_3, -⟩ := h_r4_q34093
    have t_34094 := KX12.i1 h_r4_q34093_3
    refine wq_eq (fun hc_34095 => ?_) (fun hc_34096 => ?_)
    · exact wq_s ⟨(show 0 ≤ (0 : Int32).toInt ∧ (0 : Int32).toInt ≤ 50000 from ⟨by omega, by omega⟩), h_r4_q34093_3, trivial⟩
    · exact tt_fX12_on_L37 hN x1 ⟨by omega, by omega⟩ N r4_q34093.2.1 r4_q34093.2.2.1 r4_q34093.2.2.2 (0 : Int32) ⟨by omega, by omega⟩ h_r4_q34093_3 (by omega)
set_option maxHeartbeats 4000000 in
theorem tt_fX12_held {N : Nat} (hN : 3000000000 ≤ N) (I0 : Nat → Int32) (L0 : Int64) (M0 : Nat → Nat → Int32) (x1 : Int32) (k_I0 : KX12 I0 M0) : wq (fX12_held N I0 L0 M0 x1) (fun r => KX12 r.2.1 r.2.2.2 ∧ True) := by
  unfold fX12_held
  refine wq_v (fun I0_2_q34271 h_I0_2_q34271 => ?_)
  have k_I0_2_q34271 : KX12 I0_2_q34271 M0 := by rw [h_I0_2_q34271]; exact KX12.si0 k_I0
  have t_34272 := KX12.i16 k_I0
  have t_34273 : (I0_2_q34271 16).toInt = (I0 16).toInt := by rw [h_I0_2_q34271]; rfl
  have l_0 := il_0
  refine wq_eq (fun hc_34274 => ?_) (fun hc_34275 => ?_)
  · unfold fX12_held_J26
    unfold fX12_held_J27
    have l_1 := il_1
    refine wq_b (tt_fX12_right hN I0_2_q34271 L0 M0 (0 : Int32) (1 : Int32) ⟨by omega, by omega⟩ k_I0_2_q34271) (fun r1_q34276 h_r1_q34276 => ?_)
    obtain ⟨h_r1_q34276_0, h_r1_q34276_1, h_r1_q34276_2, h_r1_q34276_3, -⟩ := h_r1_q34276
    have t_34277 := KX12.i1 h_r1_q34276_3
    have t_34278 := KX12.i1 k_I0
    have t_34279 : (I0_2_q34271 1).toInt = (I0 1).toInt := by rw [h_I0_2_q34271]; rfl
    refine wq_eq (fun hc_34280 => ?_) (fun hc_34281 => ?_)
    · exact wq_s ⟨h_r1_q34276_3, trivial⟩
    · have l_2 := il_2
      have b_34282 := i32b x1
      refine wq_in (n := 7) ⟨by omega, by omega⟩ ?_
      exact wq_s ⟨h_r1_q34276_3, trivial⟩
  · have b_34283 := i32b x1
    have l_4 := il_4
    refine wq_b (tt_fX12_within hN x1 (0 : Int32) (4 : Int32)) (fun r3_q34284 h_r3_q34284 => ?_)
    obtain ⟨h_r3_q34284_0, h_r3_q34284_1, -⟩ := h_r3_q34284
    refine wq_eq (fun hc_34285 => ?_) (fun hc_34286 => ?_)
    · unfold fX12_held_J26
      unfold fX12_held_J27
      have l_1 := il_1
      refine wq_b (tt_fX12_right hN I0_2_q34271 L0 M0 (0 : Int32) (1 : Int32) ⟨by omega, by omega⟩ k_I0_2_q34271) (fun r1_q34287 h_r1_q34287 => ?_)
      obtain ⟨h_r1_q34287_0, h_r1_q34287_1, h_r1_q34287_2, h_r1_q34287_3, -⟩ := h_r1_q34287
      have t_34288 := KX12.i1 h_r1_q34287_3
      have t_34289 := KX12.i1 k_I0
      have t_34290 : (I0_2_q34271 1).toInt = (I0 1).toInt := by rw [h_I0_2_q34271]; rfl
      refine wq_eq (fun hc_34291 => ?_) (fun hc_34292 => ?_)
      · exact wq_s ⟨h_r1_q34287_3, trivial⟩
      · have l_2 := il_2
        refine wq_in (n := 7) ⟨by omega, by omega⟩ ?_
        exact wq_s ⟨h_r1_q34287_3, trivial⟩
    · unfold fX12_held_J27
      have l_1 := il_1
      refine wq_b (tt_fX12_right hN I0_2_q34271 L0 M0 (1 : Int32) (1 : Int32) ⟨by omega, by omega⟩ k_I0_2_q34271) (fun r1_q34293 h_r1_q34293 => ?_)
      obtain ⟨h_r1_q34293_0, h_r1_q34293_1, h_r1_q34293_2, h_r1_q34293_3, -⟩ := h_r1_q34293
      have t_34294 := KX12.i1 h_r1_q34293_3
      have t_34295 := KX12.i1 k_I0
      have t_34296 : (I0_2_q34271 1).toInt = (I0 1).toInt := by rw [h_I0_2_q34271]; rfl
      refine wq_eq (fun hc_34297 => ?_) (fun hc_34298 => ?_)
      · exact wq_s ⟨h_r1_q34293_3, trivial⟩
      · have l_2 := il_2
        have t_34299 := ia_add (2 : Int32) x1 (by omega) (by omega)
        refine wq_in (n := 7) ⟨by omega, by omega⟩ ?_
        exact wq_s ⟨h_r1_q34293_3, trivial⟩
theorem tt_fX12_image {N : Nat} (hN : 3000000000 ≤ N) (I0 : Nat → Int32) (L0 : Int64) (M0 : Nat → Nat → Int32) (k_I0 : KX12 I0 M0) : wq (fX12_image N I0 L0 M0) (fun r => KX12 r.2.1 r.2.2.2 ∧ True) := by
  unfold fX12_image
  refine wq_v (fun I1 e1 => ?_)
  have k1 : KX12 I1 M0 := by rw [e1]; exact KX12.si0 k_I0
  refine wq_eq (fun hc => wq_s ⟨k1, trivial⟩) (fun hc => ?_)
  refine wq_v (fun I2 e2 => ?_)
  have k2 : KX12 I2 M0 := by rw [e2]; exact KX12.si17 k1 ⟨by decide, by decide⟩
  rw [tt_copies hN 7 (M0 18) 7 (M0 19) (by omega) (by decide), Option.bind_some]
  refine wq_v (fun M4 e4 => ?_)
  rw [e4]
  exact wq_s ⟨KX12.sf19 k2 ⟨k_I0.ese.1, k_I0.ese.2.1, k_I0.ese.2.2⟩, trivial⟩
theorem tt_fX12_restore {N : Nat} (hN : 3000000000 ≤ N) (I0 : Nat → Int32) (L0 : Int64) (M0 : Nat → Nat → Int32) (k_I0 : KX12 I0 M0) : wq (fX12_restore N I0 L0 M0) (fun r => KX12 r.2.1 r.2.2.2 ∧ True) := by
  unfold fX12_restore
  refine wq_v (fun I1 e1 => ?_)
  have k1 : KX12 I1 M0 := by rw [e1]; exact KX12.si0 k_I0
  refine wq_eq (fun hc => wq_s ⟨k1, trivial⟩) (fun hc => ?_)
  refine wq_v (fun I2 e2 => ?_)
  have k2 : KX12 I2 M0 := by rw [e2]; exact KX12.si16 k1 ⟨by decide, by decide⟩
  rw [tt_copies hN 7 (M0 19) 7 (M0 18) (by omega) (by decide), Option.bind_some]
  refine wq_v (fun M4 e4 => ?_)
  rw [e4]
  exact wq_s ⟨KX12.sf18 k2 ⟨k_I0.esi.1, k_I0.esi.2.1, k_I0.esi.2.2⟩, trivial⟩
set_option maxHeartbeats 4000000 in
theorem tt_fX12_misread {N : Nat} (hN : 3000000000 ≤ N) (I0 : Nat → Int32) (L0 : Int64) (M0 : Nat → Nat → Int32) (x1 : Int32) (x2 : Int32) (x3 : Int32) (x4 : Int32) (x5 : Int32) (k_I0 : KX12 I0 M0) : wq (fX12_misread N I0 L0 M0 x1 x2 x3 x4 x5) (fun r => (-1 ≤ r.1.toInt ∧ r.1.toInt ≤ 9) ∧ KX12 r.2.1 r.2.2.2 ∧ True) := by
  unfold fX12_misread
  have b_34768 := i32b x1
  have b_34769 := i32b x2
  refine wq_b (tt_fX12_isWheel hN I0 L0 M0 x1 x2 k_I0) (fun r5_q34770 h_r5_q34770 => ?_)
  obtain ⟨h_r5_q34770_0, h_r5_q34770_1, h_r5_q34770_2, h_r5_q34770_3, -⟩ := h_r5_q34770
  have t_34771 := KX12.i1 h_r5_q34770_3
  have t_34772 := KX12.i1 k_I0
  have l_0 := il_0
  refine wq_eq (fun hc_34773 => ?_) (fun hc_34774 => ?_)
  · exact wq_s ⟨(show -1 ≤ (0 : Int32).toInt ∧ (0 : Int32).toInt ≤ 9 from ⟨by omega, by omega⟩), h_r5_q34770_3, trivial⟩
  · have b_34775 := i32b x3
    have l_3 := il_3
    refine wq_b (tt_fX12_within hN x3 (0 : Int32) (3 : Int32)) (fun r6_q34776 h_r6_q34776 => ?_)
    obtain ⟨h_r6_q34776_0, h_r6_q34776_1, -⟩ := h_r6_q34776
    refine wq_eq (fun hc_34777 => ?_) (fun hc_34778 => ?_)
    · unfold fX12_misread_J45
      unfold fX12_misread_J46
      have l_1 := il_1
      refine wq_b (tt_fX12_right hN r5_q34770.2.1 r5_q34770.2.2.1 r5_q34770.2.2.2 (0 : Int32) (1 : Int32) ⟨by omega, by omega⟩ h_r5_q34770_3) (fun r1_q34779 h_r1_q34779 => ?_)
      obtain ⟨h_r1_q34779_0, h_r1_q34779_1, h_r1_q34779_2, h_r1_q34779_3, -⟩ := h_r1_q34779
      have t_34780 := KX12.i1 h_r1_q34779_3
      refine wq_eq (fun hc_34781 => ?_) (fun hc_34782 => ?_)
      · exact wq_s ⟨(show -1 ≤ (0 : Int32).toInt ∧ (0 : Int32).toInt ≤ 9 from ⟨by omega, by omega⟩), h_r1_q34779_3, trivial⟩
      · have l_20 := il_20
        have t_34783 := ia_mul (20 : Int32) (20) il_20 x1 (by omega) (by omega)
        have t_34784 := ia_add ((20 : Int32) * x1) x2 (by omega) (by omega)
        have b_34785 := i32b x5
        refine wq_b (tt_fX12_at hN r1_q34779.2.1 r1_q34779.2.2.1 r1_q34779.2.2.2 (((20 : Int32) * x1) + x2) x5 ⟨by omega, by omega⟩ ⟨by omega, by omega⟩ h_r1_q34779_3) (fun r2_q34786 h_r2_q34786 => ?_)
        obtain ⟨h_r2_q34786_0, h_r2_q34786_1, h_r2_q34786_2, -⟩ := h_r2_q34786
        have l_m1 := il_m1
        refine wq_eq (fun hc_34787 => ?_) (fun hc_34788 => ?_)
        · exact wq_s ⟨(show -1 ≤ (-1 : Int32).toInt ∧ (-1 : Int32).toInt ≤ 9 from ⟨by omega, by omega⟩), h_r1_q34779_3, trivial⟩
        · have b_34789 := i32b x4
          refine wq_b (tt_fX12_placeOn hN r1_q34779.2.1 r1_q34779.2.2.1 r1_q34779.2.2.2 x3 x5 x4 ⟨by omega, by omega⟩ ⟨by omega, by omega⟩ h_r1_q34779_3) (fun r3_q34790 h_r3_q34790 => ?_)
          obtain ⟨-⟩ := h_r3_q34790
          have b_34791 := i32b r3_q34790
          have l_60 := il_60
          have t_34792 := i32b r3_q34790
          have t_34793 := ia_div2 r3_q34790 (60 : Int32) 60 il_60 (by decide)
          refine wq_b (tt_fX12_beside hN r1_q34779.2.1 r1_q34779.2.2.1 r1_q34779.2.2.2 r2_q34786 (r3_q34790 / (60 : Int32)) ⟨by omega, by omega⟩ h_r1_q34779_3) (fun r4_q34794 h_r4_q34794 => ?_)
          obtain ⟨h_r4_q34794_0, -⟩ := h_r4_q34794
          exact wq_s ⟨(show -1 ≤ r4_q34794.toInt ∧ r4_q34794.toInt ≤ 9 from ⟨by omega, by omega⟩), h_r1_q34779_3, trivial⟩
    · have b_34795 := i32b x4
      have l_1000000 := il_1000000
      refine wq_b (tt_fX12_within hN x4 (0 : Int32) (1000000 : Int32)) (fun r7_q34796 h_r7_q34796 => ?_)
      obtain ⟨h_r7_q34796_0, h_r7_q34796_1, -⟩ := h_r7_q34796
      refine wq_eq (fun hc_34797 => ?_) (fun hc_34798 => ?_)
      · unfold fX12_misread_J45
        unfold fX12_misread_J46
        have l_1 := il_1
        refine wq_b (tt_fX12_right hN r5_q34770.2.1 r5_q34770.2.2.1 r5_q34770.2.2.2 (0 : Int32) (1 : Int32) ⟨by omega, by omega⟩ h_r5_q34770_3) (fun r1_q34799 h_r1_q34799 => ?_)
        obtain ⟨h_r1_q34799_0, h_r1_q34799_1, h_r1_q34799_2, h_r1_q34799_3, -⟩ := h_r1_q34799
        have t_34800 := KX12.i1 h_r1_q34799_3
        refine wq_eq (fun hc_34801 => ?_) (fun hc_34802 => ?_)
        · exact wq_s ⟨(show -1 ≤ (0 : Int32).toInt ∧ (0 : Int32).toInt ≤ 9 from ⟨by omega, by omega⟩), h_r1_q34799_3, trivial⟩
        · have l_20 := il_20
          have t_34803 := ia_mul (20 : Int32) (20) il_20 x1 (by omega) (by omega)
          have t_34804 := ia_add ((20 : Int32) * x1) x2 (by omega) (by omega)
          have b_34805 := i32b x5
          refine wq_b (tt_fX12_at hN r1_q34799.2.1 r1_q34799.2.2.1 r1_q34799.2.2.2 (((20 : Int32) * x1) + x2) x5 ⟨by omega, by omega⟩ ⟨by omega, by omega⟩ h_r1_q34799_3) (fun r2_q34806 h_r2_q34806 => ?_)
          obtain ⟨h_r2_q34806_0, h_r2_q34806_1, h_r2_q34806_2, -⟩ := h_r2_q34806
          have l_m1 := il_m1
          refine wq_eq (fun hc_34807 => ?_) (fun hc_34808 => ?_)
          · exact wq_s ⟨(show -1 ≤ (-1 : Int32).toInt ∧ (-1 : Int32).toInt ≤ 9 from ⟨by omega, by omega⟩), h_r1_q34799_3, trivial⟩
          · refine wq_b (tt_fX12_placeOn hN r1_q34799.2.1 r1_q34799.2.2.1 r1_q34799.2.2.2 x3 x5 x4 ⟨by omega, by omega⟩ ⟨by omega, by omega⟩ h_r1_q34799_3) (fun r3_q34809 h_r3_q34809 => ?_)
            obtain ⟨-⟩ := h_r3_q34809
            have b_34810 := i32b r3_q34809
            have l_60 := il_60
            have t_34811 := i32b r3_q34809
            have t_34812 := ia_div2 r3_q34809 (60 : Int32) 60 il_60 (by decide)
            refine wq_b (tt_fX12_beside hN r1_q34799.2.1 r1_q34799.2.2.1 r1_q34799.2.2.2 r2_q34806 (r3_q34809 / (60 : Int32)) ⟨by omega, by omega⟩ h_r1_q34799_3) (fun r4_q34813 h_r4_q34813 => ?_)
            obtain ⟨h_r4_q34813_0, -⟩ := h_r4_q34813
            exact wq_s ⟨(show -1 ≤ r4_q34813.toInt ∧ r4_q34813.toInt ≤ 9 from ⟨by omega, by omega⟩), h_r1_q34799_3, trivial⟩
      · have b_34814 := i32b x5
        have l_6 := il_6
        refine wq_b (tt_fX12_within hN x5 (0 : Int32) (6 : Int32)) (fun r8_q34815 h_r8_q34815 => ?_)
        obtain ⟨h_r8_q34815_0, h_r8_q34815_1, -⟩ := h_r8_q34815
        refine wq_eq (fun hc_34816 => ?_) (fun hc_34817 => ?_)
        · unfold fX12_misread_J45
          unfold fX12_misread_J46
          have l_1 := il_1
          refine wq_b (tt_fX12_right hN r5_q34770.2.1 r5_q34770.2.2.1 r5_q34770.2.2.2 (0 : Int32) (1 : Int32) ⟨by omega, by omega⟩ h_r5_q34770_3) (fun r1_q34818 h_r1_q34818 => ?_)
          obtain ⟨h_r1_q34818_0, h_r1_q34818_1, h_r1_q34818_2, h_r1_q34818_3, -⟩ := h_r1_q34818
          have t_34819 := KX12.i1 h_r1_q34818_3
          refine wq_eq (fun hc_34820 => ?_) (fun hc_34821 => ?_)
          · exact wq_s ⟨(show -1 ≤ (0 : Int32).toInt ∧ (0 : Int32).toInt ≤ 9 from ⟨by omega, by omega⟩), h_r1_q34818_3, trivial⟩
          · have l_20 := il_20
            have t_34822 := ia_mul (20 : Int32) (20) il_20 x1 (by omega) (by omega)
            have t_34823 := ia_add ((20 : Int32) * x1) x2 (by omega) (by omega)
            refine wq_b (tt_fX12_at hN r1_q34818.2.1 r1_q34818.2.2.1 r1_q34818.2.2.2 (((20 : Int32) * x1) + x2) x5 ⟨by omega, by omega⟩ ⟨by omega, by omega⟩ h_r1_q34818_3) (fun r2_q34824 h_r2_q34824 => ?_)
            obtain ⟨h_r2_q34824_0, h_r2_q34824_1, h_r2_q34824_2, -⟩ := h_r2_q34824
            have l_m1 := il_m1
            refine wq_eq (fun hc_34825 => ?_) (fun hc_34826 => ?_)
            · exact wq_s ⟨(show -1 ≤ (-1 : Int32).toInt ∧ (-1 : Int32).toInt ≤ 9 from ⟨by omega, by omega⟩), h_r1_q34818_3, trivial⟩
            · refine wq_b (tt_fX12_placeOn hN r1_q34818.2.1 r1_q34818.2.2.1 r1_q34818.2.2.2 x3 x5 x4 ⟨by omega, by omega⟩ ⟨by omega, by omega⟩ h_r1_q34818_3) (fun r3_q34827 h_r3_q34827 => ?_)
              obtain ⟨-⟩ := h_r3_q34827
              have b_34828 := i32b r3_q34827
              have l_60 := il_60
              have t_34829 := i32b r3_q34827
              have t_34830 := ia_div2 r3_q34827 (60 : Int32) 60 il_60 (by decide)
              refine wq_b (tt_fX12_beside hN r1_q34818.2.1 r1_q34818.2.2.1 r1_q34818.2.2.2 r2_q34824 (r3_q34827 / (60 : Int32)) ⟨by omega, by omega⟩ h_r1_q34818_3) (fun r4_q34831 h_r4_q34831 => ?_)
              obtain ⟨h_r4_q34831_0, -⟩ := h_r4_q34831
              exact wq_s ⟨(show -1 ≤ r4_q34831.toInt ∧ r4_q34831.toInt ≤ 9 from ⟨by omega, by omega⟩), h_r1_q34818_3, trivial⟩
        · unfold fX12_misread_J46
          have l_1 := il_1
          refine wq_b (tt_fX12_right hN r5_q34770.2.1 r5_q34770.2.2.1 r5_q34770.2.2.2 (1 : Int32) (1 : Int32) ⟨by omega, by omega⟩ h_r5_q34770_3) (fun r1_q34832 h_r1_q34832 => ?_)
          obtain ⟨h_r1_q34832_0, h_r1_q34832_1, h_r1_q34832_2, h_r1_q34832_3, -⟩ := h_r1_q34832
          have t_34833 := KX12.i1 h_r1_q34832_3
          refine wq_eq (fun hc_34834 => ?_) (fun hc_34835 => ?_)
          · exact wq_s ⟨(show -1 ≤ (0 : Int32).toInt ∧ (0 : Int32).toInt ≤ 9 from ⟨by omega, by omega⟩), h_r1_q34832_3, trivial⟩
          · have l_20 := il_20
            have t_34836 := ia_mul (20 : Int32) (20) il_20 x1 (by omega) (by omega)
            have t_34837 := ia_add ((20 : Int32) * x1) x2 (by omega) (by omega)
            refine wq_b (tt_fX12_at hN r1_q34832.2.1 r1_q34832.2.2.1 r1_q34832.2.2.2 (((20 : Int32) * x1) + x2) x5 ⟨by omega, by omega⟩ ⟨by omega, by omega⟩ h_r1_q34832_3) (fun r2_q34838 h_r2_q34838 => ?_)
            obtain ⟨h_r2_q34838_0, h_r2_q34838_1, h_r2_q34838_2, -⟩ := h_r2_q34838
            have l_m1 := il_m1
            refine wq_eq (fun hc_34839 => ?_) (fun hc_34840 => ?_)
            · exact wq_s ⟨(show -1 ≤ (-1 : Int32).toInt ∧ (-1 : Int32).toInt ≤ 9 from ⟨by omega, by omega⟩), h_r1_q34832_3, trivial⟩
            · refine wq_b (tt_fX12_placeOn hN r1_q34832.2.1 r1_q34832.2.2.1 r1_q34832.2.2.2 x3 x5 x4 ⟨by omega, by omega⟩ ⟨by omega, by omega⟩ h_r1_q34832_3) (fun r3_q34841 h_r3_q34841 => ?_)
              obtain ⟨-⟩ := h_r3_q34841
              have b_34842 := i32b r3_q34841
              have l_60 := il_60
              have t_34843 := i32b r3_q34841
              have t_34844 := ia_div2 r3_q34841 (60 : Int32) 60 il_60 (by decide)
              refine wq_b (tt_fX12_beside hN r1_q34832.2.1 r1_q34832.2.2.1 r1_q34832.2.2.2 r2_q34838 (r3_q34841 / (60 : Int32)) ⟨by omega, by omega⟩ h_r1_q34832_3) (fun r4_q34845 h_r4_q34845 => ?_)
              obtain ⟨h_r4_q34845_0, -⟩ := h_r4_q34845
              exact wq_s ⟨(show -1 ≤ r4_q34845.toInt ∧ r4_q34845.toInt ≤ 9 from ⟨by omega, by omega⟩), h_r1_q34832_3, trivial⟩
set_option maxHeartbeats 4000000 in
theorem tt_fX12_errors_L340 {N : Nat} (hN : 3000000000 ≤ N) (x1 : Int32) (x2 : Int32) (x3 : Int32) (x4 : Int32) (g51 : (Nat → Int32) → Int64 → (Nat → Nat → Int32) → Int32 → Option (Int32 × (Nat → Int32) × Int64 × (Nat → Nat → Int32))) (g90 : (Nat → Int32) → Int64 → (Nat → Nat → Int32) → Int32 → Int32 → Option (Int32 × (Nat → Int32) × Int64 × (Nat → Nat → Int32))) (h_x1 : 0 ≤ x1.toInt ∧ x1.toInt ≤ 5) (h_x2 : 0 ≤ x2.toInt ∧ x2.toInt ≤ 19) (h_x3 : 0 ≤ x3.toInt ∧ x3.toInt ≤ 1000000) (h_x4 : 1 ≤ x4.toInt ∧ x4.toInt ≤ 1)  : ∀ (fu : Nat) (I0_l340 : (Nat → Int32)) (L0_l340 : Int64) (M0_l340 : (Nat → Nat → Int32)) (y340_6 : Int32) (y340_7 : Int32), (1 ≤ y340_6.toInt ∧ y340_6.toInt ≤ 3) → (2 ≤ y340_7.toInt ∧ y340_7.toInt ≤ 4) → (KX12 I0_l340 M0_l340) → (4 - y340_7.toInt) < (fu : Int) → wq (fX12_errors_L340 N x1 x2 x3 x4 g51 g90 fu I0_l340 L0_l340 M0_l340 y340_6 y340_7) (fun r => KX12 r.2.1 r.2.2.2 ∧ True) := by
  intro fu
  induction fu with
  | zero => intro I0_l340 L0_l340 M0_l340 y340_6 y340_7 h_y340_6 h_y340_7 k_I0_l340 hm; exfalso; omega
  | succ fu ih =>
    intro I0_l340 L0_l340 M0_l340 y340_6 y340_7 h_y340_6 h_y340_7 k_I0_l340 hm
    rw [fX12_errors_L340.eq_2]
    have l_4 := il_4
    refine wq_le (fun hc_38573 => ?_) (fun hc_38574 => ?_)
    · refine wq_in (n := 4) ⟨by omega, by omega⟩ ?_
      have l_0 := il_0
      refine wq_eq (fun hc_38575 => ?_) (fun hc_38576 => ?_)
      · have l_m1 := il_m1
        exact wq_s ⟨k_I0_l340, trivial⟩
      · exact wq_s ⟨k_I0_l340, trivial⟩
    · refine wq_in (n := 4) ⟨by omega, by omega⟩ ?_
      refine wq_in (n := 4) ⟨by omega, by omega⟩ ?_
      refine wq_le (fun hc_38577 => ?_) (fun hc_38578 => ?_)
      · have l_1 := il_1
        have t_38580 := ia_add y340_7 (1 : Int32) (by omega) (by omega)
        refine wq_v (fun v2_q38579 h_v2_q38579 => ?_)
        have t_v2_q38579 := congrArg Int32.toInt h_v2_q38579
        exact ih I0_l340 L0_l340 M0_l340 y340_6 v2_q38579 ⟨by omega, by omega⟩ ⟨by omega, by omega⟩ k_I0_l340 (by omega)
      · have l_1 := il_1
        have t_38582 := ia_add y340_7 (1 : Int32) (by omega) (by omega)
        refine wq_v (fun v3_q38581 h_v3_q38581 => ?_)
        have t_v3_q38581 := congrArg Int32.toInt h_v3_q38581
        exact ih I0_l340 L0_l340 M0_l340 y340_7 v3_q38581 ⟨by omega, by omega⟩ ⟨by omega, by omega⟩ k_I0_l340 (by omega)
set_option maxHeartbeats 4000000 in
theorem wq_be {α β : Type} {x : Option α} {k : α → Option β} {P : α → Prop} {Q : β → Prop} (h : wq x P) (h2 : ∀ r, x = some r → P r → wq (k r) Q) : wq (x.bind k) Q := by
  obtain ⟨r, e, hr⟩ := h
  rw [e]
  exact h2 r e hr
def ER (N : Nat) (I : Nat → Int32) (L : Int64) (M : Nat → Nat → Int32) (k d e n b : Int32) : Prop :=
  0 ≤ b.toInt ∧ b.toInt < n.toInt ∧ ∀ s p : Int32, 1 ≤ s.toInt → s.toInt < n.toInt → fX12_placeOn N I L M s k d = some p → (p / (60 : Int32)).toInt = e.toInt → 1 ≤ b.toInt
theorem pl_um {N : Nat} {I : Nat → Int32} {L : Int64} {M : Nat → Nat → Int32} {q i : Nat} {v s k d : Int32} (hq : 4 ≤ q) : fX12_placeOn N I L (wb_um M q i v) s k d = fX12_placeOn N I L M s k d := by
  have h0 : wb_um M q i v 0 = M 0 := by unfold wb_um; exact if_neg (by omega)
  have h1 : wb_um M q i v 1 = M 1 := by unfold wb_um; exact if_neg (by omega)
  have h2 : wb_um M q i v 2 = M 2 := by unfold wb_um; exact if_neg (by omega)
  have h3 : wb_um M q i v 3 = M 3 := by unfold wb_um; exact if_neg (by omega)
  unfold fX12_placeOn fX12_placeOn_J79
  simp only [h0, h1, h2, h3]
theorem ER_um {N : Nat} {I : Nat → Int32} {L : Int64} {M : Nat → Nat → Int32} {k d e n b : Int32} {q i : Nat} {v : Int32} (hq : 4 ≤ q) (h : ER N I L M k d e n b) : ER N I L (wb_um M q i v) k d e n b :=
  ⟨h.1, h.2.1, fun s p h1 h2 h3 h4 => h.2.2 s p h1 h2 ((pl_um hq).symm.trans h3) h4⟩
theorem ER_0 {N : Nat} {I : Nat → Int32} {L : Int64} {M : Nat → Nat → Int32} {k d e : Int32} : ER N I L M k d e (1 : Int32) (0 : Int32) := by
  have l_0 := il_0
  have l_1 := il_1
  exact ⟨by omega, by omega, fun s p h1 h2 => by omega⟩
theorem ER_4 {N : Nat} {I : Nat → Int32} {L : Int64} {M : Nat → Nat → Int32} {k d e n b : Int32} (h : ER N I L M k d e n b) (hn : n.toInt = 4) : ER N I L M k d e (4 : Int32) b := by
  have l_4 := il_4
  exact ⟨h.1, by have := h.2.1; omega, fun s p h1 h2 => h.2.2 s p h1 (by omega)⟩
theorem ER_y {N : Nat} {I : Nat → Int32} {L : Int64} {M : Nat → Nat → Int32} {k d e n b n2 b2 p : Int32} (h : ER N I L M k d e n b) (_ : fX12_placeOn N I L M n k d = some p) (_ : (p / (60 : Int32)).toInt = e.toInt) (hb : b2.toInt = b.toInt + 1) (hn : n2.toInt = n.toInt + 1) : ER N I L M k d e n2 b2 := by
  have h1 := h.1
  have h2 := h.2.1
  exact ⟨by omega, by omega, fun s p _ _ _ _ => by omega⟩
theorem ER_n {N : Nat} {I : Nat → Int32} {L : Int64} {M : Nat → Nat → Int32} {k d e n b n2 b2 p : Int32} (h : ER N I L M k d e n b) (hp : fX12_placeOn N I L M n k d = some p) (hne : ¬ (p / (60 : Int32)).toInt = e.toInt) (hb : b2.toInt = b.toInt) (hn : n2.toInt = n.toInt + 1) : ER N I L M k d e n2 b2 := by
  have h1 := h.1
  have h2 := h.2.1
  refine ⟨by omega, by omega, fun s p' h3 h4 h5 h6 => ?_⟩
  by_cases hs : s.toInt = n.toInt
  · have : s = n := Int32.toInt_inj.mp hs
    rw [this, hp] at h5
    exact absurd (Option.some.inj h5 ▸ h6) hne
  · rw [hb]
    exact h.2.2 s p' h3 (by omega) h5 h6

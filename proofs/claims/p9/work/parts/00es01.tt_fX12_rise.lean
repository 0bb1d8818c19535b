set_option maxHeartbeats 4000000 in
theorem tt_fX12_rise {N : Nat} (hN : 3000000000 ≤ N) (I0 : Nat → Int32) (L0 : Int64) (M0 : Nat → Nat → Int32) (x1 : Int32) (x2 : Int32) (x3 : Int32) (k_I0 : KX12 I0 M0) : wq (fX12_rise N I0 L0 M0 x1 x2 x3) (fun r => KX12 r.2.1 r.2.2.2 ∧ True) := by
  unfold fX12_rise
  refine wq_v (fun I0_1_q43928 h_I0_1_q43928 => ?_)
  have k_I0_1_q43928 : KX12 I0_1_q43928 M0 := by rw [h_I0_1_q43928]; exact KX12.si0 k_I0
  have b_43929 := i32b x1
  have b_43930 := i32b x2
  refine wq_b (tt_fX12_isClimate hN I0_1_q43928 L0 M0 x1 x2 k_I0_1_q43928) (fun r2_q43931 h_r2_q43931 => ?_)
  obtain ⟨h_r2_q43931_0, h_r2_q43931_1, h_r2_q43931_2, h_r2_q43931_3, -⟩ := h_r2_q43931
  have t_43932 := KX12.i1 h_r2_q43931_3
  have t_43933 := KX12.i1 k_I0
  have t_43934 : (I0_1_q43928 1).toInt = (I0 1).toInt := by rw [h_I0_1_q43928]; rfl
  have l_0 := il_0
  refine wq_eq (fun hc_43935 => ?_) (fun hc_43936 => ?_)
  · exact wq_s ⟨h_r2_q43931_3, trivial⟩
  · have b_43937 := i32b x3
    have l_359 := il_359
    refine wq_b (tt_fX12_within hN x3 (0 : Int32) (359 : Int32)) (fun r3_q43938 h_r3_q43938 => ?_)
    obtain ⟨h_r3_q43938_0, h_r3_q43938_1, -⟩ := h_r3_q43938
    have l_1 := il_1
    refine wq_b (tt_fX12_right hN r2_q43931.2.1 r2_q43931.2.2.1 r2_q43931.2.2.2 r3_q43938 (1 : Int32) ⟨by omega, by omega⟩ h_r2_q43931_3) (fun r4_q43939 h_r4_q43939 => ?_)
    obtain ⟨h_r4_q43939_0, h_r4_q43939_1, h_r4_q43939_2, h_r4_q43939_3, -⟩ := h_r4_q43939
    have t_43940 := KX12.i1 h_r4_q43939_3
    refine wq_eq (fun hc_43941 => ?_) (fun hc_43942 => ?_)
    · exact wq_s ⟨h_r4_q43939_3, trivial⟩
    · refine wq_b (tt_fX12_riseOf hN r4_q43939.2.1 r4_q43939.2.2.1 r4_q43939.2.2.2 x1 x2 x3 ⟨by omega, by omega⟩ ⟨by omega, by omega⟩ ⟨by omega, by omega⟩ h_r4_q43939_3 (by omega)) (fun r5_q43943 h_r5_q43943 => ?_)
      obtain ⟨-⟩ := h_r5_q43943
      have b_43944 := i32b r5_q43943
      exact wq_s ⟨h_r4_q43939_3, trivial⟩

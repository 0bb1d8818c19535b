set_option maxHeartbeats 4000000 in
theorem tt_fX12_hour {N : Nat} (hN : 3000000000 ≤ N) (I0 : Nat → Int32) (L0 : Int64) (M0 : Nat → Nat → Int32) (x1 : Int32) (x2 : Int32) (x3 : Int32) (k_I0 : KX12 I0 M0) : wq (fX12_hour N I0 L0 M0 x1 x2 x3) (fun r => KX12 r.2.1 r.2.2.2 ∧ True) := by
  unfold fX12_hour
  have b_45707 := i32b x1
  have b_45708 := i32b x2
  refine wq_b (tt_fX12_isWheel hN I0 L0 M0 x1 x2 k_I0) (fun r7_q45709 h_r7_q45709 => ?_)
  obtain ⟨h_r7_q45709_0, h_r7_q45709_1, h_r7_q45709_2, h_r7_q45709_3, -⟩ := h_r7_q45709
  have t_45710 := KX12.i1 h_r7_q45709_3
  have t_45711 := KX12.i1 k_I0
  have l_0 := il_0
  refine wq_eq (fun hc_45712 => ?_) (fun hc_45713 => ?_)
  · exact wq_s ⟨h_r7_q45709_3, trivial⟩
  · have l_20 := il_20
    have t_45715 := ia_mul (20 : Int32) (20) il_20 x1 (by omega) (by omega)
    have t_45716 := ia_add ((20 : Int32) * x1) x2 (by omega) (by omega)
    refine wq_v (fun v8_q45714 h_v8_q45714 => ?_)
    have t_v8_q45714 := congrArg Int32.toInt h_v8_q45714
    refine wq_b (tt_fX12_at hN r7_q45709.2.1 r7_q45709.2.2.1 r7_q45709.2.2.2 v8_q45714 (0 : Int32) ⟨by omega, by omega⟩ ⟨by omega, by omega⟩ h_r7_q45709_3) (fun r9b_q45717 h_r9b_q45717 => ?_)
    obtain ⟨h_r9b_q45717_0, h_r9b_q45717_1, h_r9b_q45717_2, -⟩ := h_r9b_q45717
    have l_m1 := il_m1
    refine wq_eq (fun hc_45718 => ?_) (fun hc_45719 => ?_)
    · unfold fX12_hour_J46
      unfold fX12_hour_J47
      refine wq_eq (fun hc_45720 => ?_) (fun hc_45721 => ?_)
      · have b_45722 := i32b x3
        refine wq_eq (fun hc_45723 => ?_) (fun hc_45724 => ?_)
        · exact wq_s ⟨h_r7_q45709_3, trivial⟩
        · unfold fX12_hour_J61
          exact tt_fX12_hour_L67 hN x1 x2 x3 v8_q45714 (0 : Int32) ⟨by omega, by omega⟩ ⟨by omega, by omega⟩ ⟨by omega, by omega⟩ ⟨by omega, by omega⟩ N r7_q45709.2.1 r7_q45709.2.2.1 r7_q45709.2.2.2 (0 : Int32) (0 : Int32) ⟨by omega, by omega⟩ h_r7_q45709_3 (by omega)
      · exfalso; omega
    · have l_7 := il_7
      refine wq_b (tt_fX12_at hN r7_q45709.2.1 r7_q45709.2.2.1 r7_q45709.2.2.2 v8_q45714 (7 : Int32) ⟨by omega, by omega⟩ ⟨by omega, by omega⟩ h_r7_q45709_3) (fun r10_q45725 h_r10_q45725 => ?_)
      obtain ⟨h_r10_q45725_0, h_r10_q45725_1, h_r10_q45725_2, -⟩ := h_r10_q45725
      refine wq_eq (fun hc_45726 => ?_) (fun hc_45727 => ?_)
      · unfold fX12_hour_J46
        unfold fX12_hour_J47
        refine wq_eq (fun hc_45728 => ?_) (fun hc_45729 => ?_)
        · have b_45730 := i32b x3
          refine wq_eq (fun hc_45731 => ?_) (fun hc_45732 => ?_)
          · exact wq_s ⟨h_r7_q45709_3, trivial⟩
          · unfold fX12_hour_J61
            exact tt_fX12_hour_L67 hN x1 x2 x3 v8_q45714 (0 : Int32) ⟨by omega, by omega⟩ ⟨by omega, by omega⟩ ⟨by omega, by omega⟩ ⟨by omega, by omega⟩ N r7_q45709.2.1 r7_q45709.2.2.1 r7_q45709.2.2.2 (0 : Int32) (0 : Int32) ⟨by omega, by omega⟩ h_r7_q45709_3 (by omega)
        · exfalso; omega
      · unfold fX12_hour_J47
        have l_1 := il_1
        refine wq_eq (fun hc_45733 => ?_) (fun hc_45734 => ?_)
        · exfalso; omega
        · unfold fX12_hour_J61
          have b_45735 := i32b x3
          exact tt_fX12_hour_L67 hN x1 x2 x3 v8_q45714 (1 : Int32) ⟨by omega, by omega⟩ ⟨by omega, by omega⟩ ⟨by omega, by omega⟩ ⟨by omega, by omega⟩ N r7_q45709.2.1 r7_q45709.2.2.1 r7_q45709.2.2.2 (0 : Int32) (0 : Int32) ⟨by omega, by omega⟩ h_r7_q45709_3 (by omega)

set_option maxHeartbeats 4000000 in
theorem tt_fX12_errors {N : Nat} (hN : 3000000000 ≤ N) (I0 : Nat → Int32) (L0 : Int64) (M0 : Nat → Nat → Int32) (x1 : Int32) (x2 : Int32) (x3 : Int32) (x4 : Int32) (k_I0 : KX12 I0 M0) : wq (fX12_errors N I0 L0 M0 x1 x2 x3 x4) (fun r => KX12 r.2.1 r.2.2.2 ∧ True) := by
  unfold fX12_errors
  have b_43387 := i32b x1
  have b_43388 := i32b x2
  refine wq_b (tt_fX12_isWheel hN I0 L0 M0 x1 x2 k_I0) (fun r25_q43389 h_r25_q43389 => ?_)
  obtain ⟨h_r25_q43389_0, h_r25_q43389_1, h_r25_q43389_2, h_r25_q43389_3, -⟩ := h_r25_q43389
  have t_43390 := KX12.i1 h_r25_q43389_3
  have t_43391 := KX12.i1 k_I0
  have l_0 := il_0
  refine wq_eq (fun hc_43392 => ?_) (fun hc_43393 => ?_)
  · exact wq_s ⟨h_r25_q43389_3, trivial⟩
  · have b_43394 := i32b x3
    have l_1000000 := il_1000000
    refine wq_b (tt_fX12_within hN x3 (0 : Int32) (1000000 : Int32)) (fun r26_q43395 h_r26_q43395 => ?_)
    obtain ⟨h_r26_q43395_0, h_r26_q43395_1, -⟩ := h_r26_q43395
    refine wq_eq (fun hc_43396 => ?_) (fun hc_43397 => ?_)
    · unfold fX12_errors_J35
      unfold fX12_errors_J36
      have l_1 := il_1
      refine wq_b (tt_fX12_right hN r25_q43389.2.1 r25_q43389.2.2.1 r25_q43389.2.2.2 (0 : Int32) (1 : Int32) ⟨by omega, by omega⟩ h_r25_q43389_3) (fun r1_q43398 h_r1_q43398 => ?_)
      obtain ⟨h_r1_q43398_0, h_r1_q43398_1, h_r1_q43398_2, h_r1_q43398_3, -⟩ := h_r1_q43398
      have t_43399 := KX12.i1 h_r1_q43398_3
      refine wq_eq (fun hc_43400 => ?_) (fun hc_43401 => ?_)
      · exact wq_s ⟨h_r1_q43398_3, trivial⟩
      · have b_43402 := i32b x4
        exact tt_fX12_errors_L51 hN x1 x2 x3 x4 ⟨by omega, by omega⟩ ⟨by omega, by omega⟩ ⟨by omega, by omega⟩ ⟨by omega, by omega⟩ N r1_q43398.2.1 r1_q43398.2.2.1 r1_q43398.2.2.2 (1 : Int32) ⟨by omega, by omega⟩ h_r1_q43398_3 (by omega)
    · have b_43403 := i32b x4
      have l_10 := il_10
      refine wq_b (tt_fX12_within hN x4 (0 : Int32) (10 : Int32)) (fun r27_q43404 h_r27_q43404 => ?_)
      obtain ⟨h_r27_q43404_0, h_r27_q43404_1, -⟩ := h_r27_q43404
      refine wq_eq (fun hc_43405 => ?_) (fun hc_43406 => ?_)
      · unfold fX12_errors_J35
        unfold fX12_errors_J36
        have l_1 := il_1
        refine wq_b (tt_fX12_right hN r25_q43389.2.1 r25_q43389.2.2.1 r25_q43389.2.2.2 (0 : Int32) (1 : Int32) ⟨by omega, by omega⟩ h_r25_q43389_3) (fun r1_q43407 h_r1_q43407 => ?_)
        obtain ⟨h_r1_q43407_0, h_r1_q43407_1, h_r1_q43407_2, h_r1_q43407_3, -⟩ := h_r1_q43407
        have t_43408 := KX12.i1 h_r1_q43407_3
        refine wq_eq (fun hc_43409 => ?_) (fun hc_43410 => ?_)
        · exact wq_s ⟨h_r1_q43407_3, trivial⟩
        · exact tt_fX12_errors_L51 hN x1 x2 x3 x4 ⟨by omega, by omega⟩ ⟨by omega, by omega⟩ ⟨by omega, by omega⟩ ⟨by omega, by omega⟩ N r1_q43407.2.1 r1_q43407.2.2.1 r1_q43407.2.2.2 (1 : Int32) ⟨by omega, by omega⟩ h_r1_q43407_3 (by omega)
      · unfold fX12_errors_J36
        have l_1 := il_1
        refine wq_b (tt_fX12_right hN r25_q43389.2.1 r25_q43389.2.2.1 r25_q43389.2.2.2 (1 : Int32) (1 : Int32) ⟨by omega, by omega⟩ h_r25_q43389_3) (fun r1_q43411 h_r1_q43411 => ?_)
        obtain ⟨h_r1_q43411_0, h_r1_q43411_1, h_r1_q43411_2, h_r1_q43411_3, -⟩ := h_r1_q43411
        have t_43412 := KX12.i1 h_r1_q43411_3
        refine wq_eq (fun hc_43413 => ?_) (fun hc_43414 => ?_)
        · exact wq_s ⟨h_r1_q43411_3, trivial⟩
        · exact tt_fX12_errors_L51 hN x1 x2 x3 x4 ⟨by omega, by omega⟩ ⟨by omega, by omega⟩ ⟨by omega, by omega⟩ ⟨by omega, by omega⟩ N r1_q43411.2.1 r1_q43411.2.2.1 r1_q43411.2.2.2 (1 : Int32) ⟨by omega, by omega⟩ h_r1_q43411_3 (by omega)

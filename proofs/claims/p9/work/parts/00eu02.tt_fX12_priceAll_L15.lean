set_option maxHeartbeats 4000000 in
theorem tt_fX12_priceAll_L15 {N : Nat} (hN : 3000000000 ≤ N) (I0 : Nat → Int32) (L0 : Int64) (M0 : Nat → Nat → Int32) (x1 : Int32) (x2 : Int32) (y5_4 : Int32) (g5 : Int32 → Int32 → Option (Int32)) (h_x1 : 0 ≤ x1.toInt ∧ x1.toInt ≤ 5) (h_x2 : 0 ≤ x2.toInt ∧ x2.toInt ≤ 5) (h_y5_4 : 0 ≤ y5_4.toInt ∧ y5_4.toInt ≤ 19) (k_I0 : KX12 I0 M0) (hg5 : ∀ (q0 : Int32) (q1 : Int32), (0 ≤ q1.toInt ∧ q1.toInt ≤ 20) → (y5_4.toInt < q1.toInt) → wq (g5 q0 q1) (fun r => True)) : ∀ (fu : Nat) (y15_3 : Int32) (y15_5 : Int32), (0 ≤ y15_5.toInt ∧ y15_5.toInt ≤ 22) → (22 - y15_5.toInt) < (fu : Int) → wq (fX12_priceAll_L15 N I0 L0 M0 x1 x2 y5_4 g5 fu y15_3 y15_5) (fun r => True) := by
  intro fu
  induction fu with
  | zero => intro y15_3 y15_5 h_y15_5 hm; exfalso; omega
  | succ fu ih =>
    intro y15_3 y15_5 h_y15_5 hm
    rw [fX12_priceAll_L15.eq_2]
    have l_22 := il_22
    refine wq_le (fun hc_52515 => ?_) (fun hc_52516 => ?_)
    · have l_1 := il_1
      have t_52518 := ia_add y5_4 (1 : Int32) (by omega) (by omega)
      refine wq_v (fun v1_q52517 h_v1_q52517 => ?_)
      have t_v1_q52517 := congrArg Int32.toInt h_v1_q52517
      have b_52519 := i32b y15_3
      exact hg5 y15_3 v1_q52517 ⟨by omega, by omega⟩ (by omega)
    · have l_20 := il_20
      have t_52520 := ia_mul (20 : Int32) (20) il_20 x1 (by omega) (by omega)
      have t_52521 := ia_add ((20 : Int32) * x1) y5_4 (by omega) (by omega)
      refine wq_b (tt_fX12_at hN I0 L0 M0 (((20 : Int32) * x1) + y5_4) y15_5 ⟨by omega, by omega⟩ ⟨by omega, by omega⟩ k_I0) (fun r2_q52522 h_r2_q52522 => ?_)
      obtain ⟨h_r2_q52522_0, h_r2_q52522_1, h_r2_q52522_2, -⟩ := h_r2_q52522
      have t_52523 := ia_mul (20 : Int32) (20) il_20 x2 (by omega) (by omega)
      have t_52524 := ia_add ((20 : Int32) * x2) y5_4 (by omega) (by omega)
      refine wq_b (tt_fX12_at hN I0 L0 M0 (((20 : Int32) * x2) + y5_4) y15_5 ⟨by omega, by omega⟩ ⟨by omega, by omega⟩ k_I0) (fun r3_q52525 h_r3_q52525 => ?_)
      obtain ⟨h_r3_q52525_0, h_r3_q52525_1, h_r3_q52525_2, -⟩ := h_r3_q52525
      refine wq_b (tt_fX12_priceOf hN I0 L0 M0 r2_q52522 r3_q52525 y15_5 ⟨by omega, by omega⟩ ⟨by omega, by omega⟩ k_I0) (fun r4_q52526 h_r4_q52526 => ?_)
      obtain ⟨h_r4_q52526_0, -⟩ := h_r4_q52526
      have b_52528 := i32b y15_3
      refine wq_v (fun v5_q52527 h_v5_q52527 => ?_)
      have t_v5_q52527 := congrArg Int32.toInt h_v5_q52527
      have l_1 := il_1
      have t_52530 := ia_add y15_5 (1 : Int32) (by omega) (by omega)
      refine wq_v (fun v6_q52529 h_v6_q52529 => ?_)
      have t_v6_q52529 := congrArg Int32.toInt h_v6_q52529
      have b_52531 := i32b v5_q52527
      exact ih v5_q52527 v6_q52529 ⟨by omega, by omega⟩ (by omega)

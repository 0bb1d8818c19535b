set_option maxHeartbeats 4000000 in
theorem tt_fX12_climbOf_L5 {N : Nat} (hN : 3000000000 ≤ N) (I0 : Nat → Int32) (L0 : Int64) (M0 : Nat → Nat → Int32) (x1 : Int32) (x2 : Int32) (h_x1 : 0 ≤ x1.toInt ∧ x1.toInt ≤ 6) (h_x2 : -60 ≤ x2.toInt ∧ x2.toInt ≤ 21599) (k_I0 : KX12 I0 M0)  : ∀ (fu : Nat) (y5_3 : Int32) (y5_4 : Int32), (0 ≤ y5_4.toInt ∧ y5_4.toInt ≤ 11) → (11 - y5_4.toInt) < (fu : Int) → wq (fX12_climbOf_L5 N I0 L0 M0 x1 x2 fu y5_3 y5_4) (fun r => True) := by
  intro fu
  induction fu with
  | zero => intro y5_3 y5_4 h_y5_4 hm; exfalso; omega
  | succ fu ih =>
    intro y5_3 y5_4 h_y5_4 hm
    rw [fX12_climbOf_L5.eq_2]
    have l_1800 := il_1800
    have t_43558 := ia_div2 x2 (1800 : Int32) 1800 il_1800 (by decide)
    refine wq_le (fun hc_43559 => ?_) (fun hc_43560 => ?_)
    · have l_12 := il_12
      have t_43561 := ia_mul (12 : Int32) (12) il_12 x1 (by omega) (by omega)
      have t_43562 := ia_add ((12 : Int32) * x1) (x2 / (1800 : Int32)) (by omega) (by omega)
      refine wq_in (n := 84) ⟨by omega, by omega⟩ ?_
      have b_43563 := i32b y5_3
      exact wq_s trivial
    · have l_12 := il_12
      have t_43564 := ia_mul (12 : Int32) (12) il_12 x1 (by omega) (by omega)
      have t_43565 := ia_add ((12 : Int32) * x1) y5_4 (by omega) (by omega)
      refine wq_in (n := 84) ⟨by omega, by omega⟩ ?_
      have b_43567 := i32b y5_3
      refine wq_v (fun v1_q43566 h_v1_q43566 => ?_)
      have t_v1_q43566 := congrArg Int32.toInt h_v1_q43566
      have l_1 := il_1
      have t_43569 := ia_add y5_4 (1 : Int32) (by omega) (by omega)
      refine wq_v (fun v2_q43568 h_v2_q43568 => ?_)
      have t_v2_q43568 := congrArg Int32.toInt h_v2_q43568
      have b_43570 := i32b v1_q43566
      exact ih v1_q43566 v2_q43568 ⟨by omega, by omega⟩ (by omega)

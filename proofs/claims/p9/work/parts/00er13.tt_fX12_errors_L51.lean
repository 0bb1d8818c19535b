set_option maxHeartbeats 4000000 in
theorem tt_fX12_errors_L51 {N : Nat} (hN : 3000000000 ≤ N) (x1 : Int32) (x2 : Int32) (x3 : Int32) (x4 : Int32) (h_x1 : 0 ≤ x1.toInt ∧ x1.toInt ≤ 5) (h_x2 : 0 ≤ x2.toInt ∧ x2.toInt ≤ 19) (h_x3 : 0 ≤ x3.toInt ∧ x3.toInt ≤ 1000000) (h_x4 : 0 ≤ x4.toInt ∧ x4.toInt ≤ 10)  : ∀ (fu : Nat) (I0_l51 : (Nat → Int32)) (L0_l51 : Int64) (M0_l51 : (Nat → Nat → Int32)) (y51_6 : Int32), (1 ≤ y51_6.toInt ∧ y51_6.toInt ≤ 4) → (KX12 I0_l51 M0_l51) → (4 - y51_6.toInt) < (fu : Int) → wq (fX12_errors_L51 N x1 x2 x3 x4 fu I0_l51 L0_l51 M0_l51 y51_6) (fun r => KX12 r.2.1 r.2.2.2 ∧ True) := by
  intro fu
  induction fu with
  | zero => intro I0_l51 L0_l51 M0_l51 y51_6 h_y51_6 k_I0_l51 hm; exfalso; omega
  | succ fu ih =>
    intro I0_l51 L0_l51 M0_l51 y51_6 h_y51_6 k_I0_l51 hm
    rw [fX12_errors_L51.eq_2]
    have l_4 := il_4
    refine wq_le (fun hc_43380 => ?_) (fun hc_43381 => ?_)
    · have l_0 := il_0
      exact tt_fX12_errors_L90 hN x1 x2 x3 x4 _ ⟨by omega, by omega⟩ ⟨by omega, by omega⟩ ⟨by omega, by omega⟩ ⟨by omega, by omega⟩ N I0_l51 L0_l51 M0_l51 (0 : Int32) (0 : Int32) ⟨by omega, by omega⟩ k_I0_l51 (by omega)
    · refine wq_in (n := 4) ⟨by omega, by omega⟩ ?_
      refine wq_v (fun M0_21_q43382 h_M0_21_q43382 => ?_)
      have k_M0_21_q43382 : KX12 I0_l51 M0_21_q43382 := by rw [h_M0_21_q43382]; exact KX12.sm20 k_I0_l51
      refine wq_in (n := 4) ⟨by omega, by omega⟩ ?_
      refine wq_v (fun M0_22_q43383 h_M0_22_q43383 => ?_)
      have k_M0_22_q43383 : KX12 I0_l51 M0_22_q43383 := by rw [h_M0_22_q43383]; exact KX12.sm21 k_M0_21_q43382
      refine wq_in (n := 4) ⟨by omega, by omega⟩ ?_
      refine wq_v (fun M0_23_q43384 h_M0_23_q43384 => ?_)
      have k_M0_23_q43384 : KX12 I0_l51 M0_23_q43384 := by rw [h_M0_23_q43384]; exact KX12.sm22 k_M0_22_q43383
      have l_1 := il_1
      have t_43386 := ia_add y51_6 (1 : Int32) (by omega) (by omega)
      refine wq_v (fun v24_q43385 h_v24_q43385 => ?_)
      have t_v24_q43385 := congrArg Int32.toInt h_v24_q43385
      exact ih I0_l51 L0_l51 M0_23_q43384 v24_q43385 ⟨by omega, by omega⟩ k_M0_23_q43384 (by omega)

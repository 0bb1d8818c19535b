set_option maxHeartbeats 4000000 in
theorem tt_fX12_tree_L274 {N : Nat} (hN : 3000000000 ≤ N) (y258_4 : Int32) (y258_7 : Int32) (y94_3 : Int32) (g9 : (Nat → Int32) → Int64 → (Nat → Nat → Int32) → Int32 → Int32 → Option (Int32 × (Nat → Int32) × Int64 × (Nat → Nat → Int32))) (g57 : (Nat → Int32) → Int64 → (Nat → Nat → Int32) → Int32 → Option (Int32 × (Nat → Int32) × Int64 × (Nat → Nat → Int32))) (g94 : (Nat → Int32) → Int64 → (Nat → Nat → Int32) → Int32 → Int32 → Option (Int32 × (Nat → Int32) × Int64 × (Nat → Nat → Int32))) (g115 : (Nat → Int32) → Int64 → (Nat → Nat → Int32) → Int32 → Int32 → Option (Int32 × (Nat → Int32) × Int64 × (Nat → Nat → Int32))) (h_y258_4 : 0 ≤ y258_4.toInt ∧ y258_4.toInt ≤ 2147483646) (h_y94_3 : 1 ≤ y94_3.toInt ∧ y94_3.toInt ≤ 2147483647) (hg115 : ∀ (q0 : (Nat → Int32)) (q1 : Int64) (q2 : (Nat → Nat → Int32)) (q3 : Int32) (q4 : Int32), (0 ≤ q4.toInt ∧ q4.toInt ≤ 2147483647) → (KX12 q0 q2) → (y258_4.toInt < q4.toInt) → wq (g115 q0 q1 q2 q3 q4) (fun r => KX12 r.2.1 r.2.2.2 ∧ True)) : ∀ (fu : Nat) (I0_l274 : (Nat → Int32)) (L0_l274 : Int64) (M0_l274 : (Nat → Nat → Int32)) (y274_8 : Int32), (0 ≤ y274_8.toInt ∧ y274_8.toInt ≤ 6) → (KX12 I0_l274 M0_l274) → (6 - y274_8.toInt) < (fu : Int) → wq (fX12_tree_L274 N y258_4 y258_7 y94_3 g9 g57 g94 g115 fu I0_l274 L0_l274 M0_l274 y274_8) (fun r => KX12 r.2.1 r.2.2.2 ∧ True) := by
  intro fu
  induction fu with
  | zero => intro I0_l274 L0_l274 M0_l274 y274_8 h_y274_8 k_I0_l274 hm; exfalso; omega
  | succ fu ih =>
    intro I0_l274 L0_l274 M0_l274 y274_8 h_y274_8 k_I0_l274 hm
    rw [fX12_tree_L274.eq_2]
    have l_6 := il_6
    refine wq_le (fun hc_55792 => ?_) (fun hc_55793 => ?_)
    · have l_1 := il_1
      have t_55795 := ia_add y258_4 (1 : Int32) (by omega) (by omega)
      refine wq_v (fun v3_q55794 h_v3_q55794 => ?_)
      have t_v3_q55794 := congrArg Int32.toInt h_v3_q55794
      have b_55796 := i32b y258_7
      have b_55797 := i32b v3_q55794
      exact hg115 I0_l274 L0_l274 M0_l274 y258_7 v3_q55794 ⟨by omega, by omega⟩ k_I0_l274 (by omega)
    · refine wq_in (n := 6) ⟨by omega, by omega⟩ ?_
      have l_0 := il_0
      refine wq_eq (fun hc_55798 => ?_) (fun hc_55799 => ?_)
      · refine wq_in (n := 6) ⟨by omega, by omega⟩ ?_
        refine wq_v (fun M0_4_q55800 h_M0_4_q55800 => ?_)
        have l_m2 := il_m2
        have k_M0_4_q55800 : KX12 I0_l274 M0_4_q55800 := by rw [h_M0_4_q55800]; exact KX12.sm23 k_I0_l274 ⟨by omega, by omega⟩
        have l_1 := il_1
        have t_55802 := ia_add y274_8 (1 : Int32) (by omega) (by omega)
        refine wq_v (fun v5_q55801 h_v5_q55801 => ?_)
        have t_v5_q55801 := congrArg Int32.toInt h_v5_q55801
        exact ih I0_l274 L0_l274 M0_4_q55800 v5_q55801 ⟨by omega, by omega⟩ k_M0_4_q55800 (by omega)
      · refine wq_in (n := 6) ⟨by omega, by omega⟩ ?_
        refine wq_in (n := 6) ⟨by omega, by omega⟩ ?_
        refine wq_v (fun M0_6_q55803 h_M0_6_q55803 => ?_)
        have t_55804 := KX12.m24 k_I0_l274 y274_8.toNatClampNeg
        have k_M0_6_q55803 : KX12 I0_l274 M0_6_q55803 := by rw [h_M0_6_q55803]; exact KX12.sm23 k_I0_l274 ⟨by omega, by omega⟩
        have l_1 := il_1
        have t_55806 := ia_add y274_8 (1 : Int32) (by omega) (by omega)
        refine wq_v (fun v7_q55805 h_v7_q55805 => ?_)
        have t_v7_q55805 := congrArg Int32.toInt h_v7_q55805
        exact ih I0_l274 L0_l274 M0_6_q55803 v7_q55805 ⟨by omega, by omega⟩ k_M0_6_q55803 (by omega)

set_option maxHeartbeats 4000000 in
theorem tt_fX12_priceAll_L5 {N : Nat} (hN : 3000000000 ≤ N) (I0 : Nat → Int32) (L0 : Int64) (M0 : Nat → Nat → Int32) (x1 : Int32) (x2 : Int32) (h_x1 : 0 ≤ x1.toInt ∧ x1.toInt ≤ 5) (h_x2 : 0 ≤ x2.toInt ∧ x2.toInt ≤ 5) (k_I0 : KX12 I0 M0)  : ∀ (fu : Nat) (y5_3 : Int32) (y5_4 : Int32), (0 ≤ y5_4.toInt ∧ y5_4.toInt ≤ 20) → (20 - y5_4.toInt) < (fu : Int) → wq (fX12_priceAll_L5 N I0 L0 M0 x1 x2 fu y5_3 y5_4) (fun r => True) := by
  intro fu
  induction fu with
  | zero => intro y5_3 y5_4 h_y5_4 hm; exfalso; omega
  | succ fu ih =>
    intro y5_3 y5_4 h_y5_4 hm
    rw [fX12_priceAll_L5.eq_2]
    have l_20 := il_20
    refine wq_le (fun hc_52532 => ?_) (fun hc_52533 => ?_)
    · have b_52534 := i32b y5_3
      exact wq_s trivial
    · have b_52535 := i32b y5_3
      have l_0 := il_0
      exact tt_fX12_priceAll_L15 hN I0 L0 M0 x1 x2 y5_4 _ ⟨by omega, by omega⟩ ⟨by omega, by omega⟩ ⟨by omega, by omega⟩ k_I0 (fun q0 q1 hq0 hq1 => ih q0 q1 hq0 (by omega)) N y5_3 (0 : Int32) ⟨by omega, by omega⟩ (by omega)

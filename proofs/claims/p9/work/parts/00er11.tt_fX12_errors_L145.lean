set_option maxHeartbeats 4000000 in
theorem tt_fX12_errors_L145 {N : Nat} (hN : 3000000000 ≤ N) (x1 : Int32) (x2 : Int32) (x3 : Int32) (x4 : Int32) (r4 : Int32) (v7 : Int32) (y90_6 : Int32) (g51 : (Nat → Int32) → Int64 → (Nat → Nat → Int32) → Int32 → Option (Int32 × (Nat → Int32) × Int64 × (Nat → Nat → Int32))) (g90 : (Nat → Int32) → Int64 → (Nat → Nat → Int32) → Int32 → Int32 → Option (Int32 × (Nat → Int32) × Int64 × (Nat → Nat → Int32))) (h_x1 : 0 ≤ x1.toInt ∧ x1.toInt ≤ 5) (h_x2 : 0 ≤ x2.toInt ∧ x2.toInt ≤ 19) (h_x3 : 0 ≤ x3.toInt ∧ x3.toInt ≤ 1000000) (h_x4 : 0 ≤ x4.toInt ∧ x4.toInt ≤ 10) (h_r4 : 0 ≤ r4.toInt ∧ r4.toInt ≤ 359) (h_y90_6 : 0 ≤ y90_6.toInt ∧ y90_6.toInt ≤ 6) (hg90 : ∀ (q0 : (Nat → Int32)) (q1 : Int64) (q2 : (Nat → Nat → Int32)) (q3 : Int32) (q4 : Int32), (0 ≤ q4.toInt ∧ q4.toInt ≤ 7) → (KX12 q0 q2) → (y90_6.toInt < q4.toInt) → wq (g90 q0 q1 q2 q3 q4) (fun r => KX12 r.2.1 r.2.2.2 ∧ True)) : ∀ (fu : Nat) (I0_l145 : (Nat → Int32)) (L0_l145 : Int64) (M0_l145 : (Nat → Nat → Int32)) (y145_8 : Int32) (y145_9 : Int32), (1 ≤ y145_9.toInt ∧ y145_9.toInt ≤ 4) → (KX12 I0_l145 M0_l145) → ER N I0_l145 L0_l145 M0_l145 y90_6 x3 r4 y145_9 y145_8 → (4 - y145_9.toInt) < (fu : Int) → wq (fX12_errors_L145 N x1 x2 x3 x4 r4 v7 y90_6 g51 g90 fu I0_l145 L0_l145 M0_l145 y145_8 y145_9) (fun r => KX12 r.2.1 r.2.2.2 ∧ True) := by
  intro fu
  induction fu with
  | zero => intro I0_l145 L0_l145 M0_l145 y145_8 y145_9 h_y145_9 k_I0_l145 hE hm; exfalso; omega
  | succ fu ih =>
    intro I0_l145 L0_l145 M0_l145 y145_8 y145_9 h_y145_9 k_I0_l145 hE hm
    have hE1 := hE.1
    have hE2 := hE.2.1
    rw [fX12_errors_L145.eq_2]
    have l_4 := il_4
    refine wq_le (fun hc_43325 => ?_) (fun hc_43326 => ?_)
    · have b_43327 := i32b v7
      have b_43328 := i32b y145_8
      have l_1 := il_1
      exact tt_fX12_errors_L187 hN x1 x2 x3 x4 r4 v7 y145_8 y90_6 g51 g90 _ ⟨by omega, by omega⟩ ⟨by omega, by omega⟩ ⟨by omega, by omega⟩ ⟨by omega, by omega⟩ ⟨by omega, by omega⟩ ⟨by omega, by omega⟩ hg90 N I0_l145 L0_l145 M0_l145 (1 : Int32) ⟨by omega, by omega⟩ k_I0_l145 (ER_4 hE (by omega)) (by omega)
    · refine wq_be (tt_fX12_placeOn hN I0_l145 L0_l145 M0_l145 y145_9 y90_6 x3 ⟨by omega, by omega⟩ ⟨by omega, by omega⟩ k_I0_l145) (fun r15_q43329 hpl h_r15_q43329 => ?_)
      obtain ⟨-⟩ := h_r15_q43329
      have b_43330 := i32b r15_q43329
      have l_60 := il_60
      have t_43331 := i32b r15_q43329
      have t_43332 := ia_div2 r15_q43329 (60 : Int32) 60 il_60 (by decide)
      refine wq_eq (fun hc_43333 => ?_) (fun hc_43334 => ?_)
      · have b_43336 := i32b y145_8
        have l_1 := il_1
        refine wq_v (fun v18_q43335 h_v18_q43335 => ?_)
        have t_v18_q43335 := congrArg Int32.toInt h_v18_q43335
        have t_43338 := ia_add y145_9 (1 : Int32) (by omega) (by omega)
        refine wq_v (fun v19_q43337 h_v19_q43337 => ?_)
        have t_v19_q43337 := congrArg Int32.toInt h_v19_q43337
        have b_43339 := i32b v18_q43335
        have tby := ia_add y145_8 (1 : Int32) (by omega) (by omega)
        exact ih I0_l145 L0_l145 M0_l145 v18_q43335 v19_q43337 ⟨by omega, by omega⟩ k_I0_l145 (ER_y hE hpl hc_43333 (by omega) (by omega)) (by omega)
      · have b_43341 := i32b y145_8
        have l_0 := il_0
        have t_43342 := ia_add y145_8 (0 : Int32) (by omega) (by omega)
        refine wq_v (fun v16_q43340 h_v16_q43340 => ?_)
        have t_v16_q43340 := congrArg Int32.toInt h_v16_q43340
        have l_1 := il_1
        have t_43344 := ia_add y145_9 (1 : Int32) (by omega) (by omega)
        refine wq_v (fun v17_q43343 h_v17_q43343 => ?_)
        have t_v17_q43343 := congrArg Int32.toInt h_v17_q43343
        have b_43345 := i32b v16_q43340
        exact ih I0_l145 L0_l145 M0_l145 v16_q43340 v17_q43343 ⟨by omega, by omega⟩ k_I0_l145 (ER_n hE hpl hc_43334 (by omega) (by omega)) (by omega)

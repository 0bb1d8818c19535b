set_option maxHeartbeats 4000000 in
theorem tt_fX12_errors_L90 {N : Nat} (hN : 3000000000 ≤ N) (x1 : Int32) (x2 : Int32) (x3 : Int32) (x4 : Int32) (g51 : (Nat → Int32) → Int64 → (Nat → Nat → Int32) → Int32 → Option (Int32 × (Nat → Int32) × Int64 × (Nat → Nat → Int32))) (h_x1 : 0 ≤ x1.toInt ∧ x1.toInt ≤ 5) (h_x2 : 0 ≤ x2.toInt ∧ x2.toInt ≤ 19) (h_x3 : 0 ≤ x3.toInt ∧ x3.toInt ≤ 1000000) (h_x4 : 0 ≤ x4.toInt ∧ x4.toInt ≤ 10)  : ∀ (fu : Nat) (I0_l90 : (Nat → Int32)) (L0_l90 : Int64) (M0_l90 : (Nat → Nat → Int32)) (y90_5 : Int32) (y90_6 : Int32), (0 ≤ y90_6.toInt ∧ y90_6.toInt ≤ 7) → (KX12 I0_l90 M0_l90) → (7 - y90_6.toInt) < (fu : Int) → wq (fX12_errors_L90 N x1 x2 x3 x4 g51 fu I0_l90 L0_l90 M0_l90 y90_5 y90_6) (fun r => KX12 r.2.1 r.2.2.2 ∧ True) := by
  intro fu
  induction fu with
  | zero => intro I0_l90 L0_l90 M0_l90 y90_5 y90_6 h_y90_6 k_I0_l90 hm; exfalso; omega
  | succ fu ih =>
    intro I0_l90 L0_l90 M0_l90 y90_5 y90_6 h_y90_6 k_I0_l90 hm
    rw [fX12_errors_L90.eq_2]
    have l_7 := il_7
    refine wq_le (fun hc_43346 => ?_) (fun hc_43347 => ?_)
    · have l_0 := il_0
      refine wq_eq (fun hc_43348 => ?_) (fun hc_43349 => ?_)
      · have b_43350 := i32b y90_5
        exact wq_s ⟨k_I0_l90, trivial⟩
      · have l_1 := il_1
        refine wq_le (fun hc_43351 => ?_) (fun hc_43352 => ?_)
        · have l_2 := il_2
          exact tt_fX12_errors_L340 hN x1 x2 x3 x4 g51 _ ⟨by omega, by omega⟩ ⟨by omega, by omega⟩ ⟨by omega, by omega⟩ ⟨by omega, by omega⟩ N I0_l90 L0_l90 M0_l90 (1 : Int32) (2 : Int32) ⟨by omega, by omega⟩ ⟨by omega, by omega⟩ k_I0_l90 (by omega)
        · have l_5 := il_5
          refine wq_le (fun hc_43353 => ?_) (fun hc_43354 => ?_)
          · have l_8 := il_8
            refine wq_le (fun hc_43355 => ?_) (fun hc_43356 => ?_)
            · have t_43357 := ia_sub x4 (7 : Int32) (by omega) (by omega)
              refine wq_in (n := 4) ⟨by omega, by omega⟩ ?_
              exact wq_s ⟨k_I0_l90, trivial⟩
            · have l_4 := il_4
              have t_43358 := ia_sub x4 (4 : Int32) (by omega) (by omega)
              refine wq_in (n := 4) ⟨by omega, by omega⟩ ?_
              exact wq_s ⟨k_I0_l90, trivial⟩
          · have t_43359 := ia_sub x4 (1 : Int32) (by omega) (by omega)
            refine wq_in (n := 4) ⟨by omega, by omega⟩ ?_
            exact wq_s ⟨k_I0_l90, trivial⟩
    · have l_20 := il_20
      have t_43360 := ia_mul (20 : Int32) (20) il_20 x1 (by omega) (by omega)
      have t_43361 := ia_add ((20 : Int32) * x1) x2 (by omega) (by omega)
      refine wq_b (tt_fX12_at hN I0_l90 L0_l90 M0_l90 (((20 : Int32) * x1) + x2) y90_6 ⟨by omega, by omega⟩ ⟨by omega, by omega⟩ k_I0_l90) (fun r4_q43362 h_r4_q43362 => ?_)
      obtain ⟨h_r4_q43362_0, h_r4_q43362_1, h_r4_q43362_2, -⟩ := h_r4_q43362
      have l_m1 := il_m1
      refine wq_eq (fun hc_43363 => ?_) (fun hc_43364 => ?_)
      · have l_1 := il_1
        have t_43366 := ia_add y90_6 (1 : Int32) (by omega) (by omega)
        refine wq_v (fun v5_q43365 h_v5_q43365 => ?_)
        have t_v5_q43365 := congrArg Int32.toInt h_v5_q43365
        have b_43367 := i32b y90_5
        exact ih I0_l90 L0_l90 M0_l90 y90_5 v5_q43365 ⟨by omega, by omega⟩ k_I0_l90 (by omega)
      · have l_0 := il_0
        refine wq_b (tt_fX12_placeOn hN I0_l90 L0_l90 M0_l90 (0 : Int32) y90_6 x3 ⟨by omega, by omega⟩ ⟨by omega, by omega⟩ k_I0_l90) (fun r6_q43368 h_r6_q43368 => ?_)
        obtain ⟨-⟩ := h_r6_q43368
        have b_43369 := i32b r6_q43368
        have l_60 := il_60
        have t_43370 := i32b r6_q43368
        have t_43371 := ia_div2 r6_q43368 (60 : Int32) 60 il_60 (by decide)
        refine wq_eq (fun hc_43372 => ?_) (fun hc_43373 => ?_)
        · have l_1 := il_1
          have t_43375 := ia_add y90_6 (1 : Int32) (by omega) (by omega)
          refine wq_v (fun v20_q43374 h_v20_q43374 => ?_)
          have t_v20_q43374 := congrArg Int32.toInt h_v20_q43374
          have b_43376 := i32b y90_5
          exact ih I0_l90 L0_l90 M0_l90 y90_5 v20_q43374 ⟨by omega, by omega⟩ k_I0_l90 (by omega)
        · have b_43378 := i32b y90_5
          have l_1 := il_1
          refine wq_v (fun v7_q43377 h_v7_q43377 => ?_)
          have t_v7_q43377 := congrArg Int32.toInt h_v7_q43377
          have b_43379 := i32b v7_q43377
          exact tt_fX12_errors_L145 hN x1 x2 x3 x4 r4_q43362 v7_q43377 y90_6 g51 _ ⟨by omega, by omega⟩ ⟨by omega, by omega⟩ ⟨by omega, by omega⟩ ⟨by omega, by omega⟩ ⟨by omega, by omega⟩ ⟨by omega, by omega⟩ (fun q0 q1 q2 q3 q4 hq0 hq1 hq2 => ih q0 q1 q2 q3 q4 hq0 hq1 (by omega)) N I0_l90 L0_l90 M0_l90 (0 : Int32) (1 : Int32) ⟨by omega, by omega⟩ k_I0_l90 ER_0 (by omega)

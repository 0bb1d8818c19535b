set_option maxHeartbeats 4000000 in
theorem tt_fX12_errors_L187 {N : Nat} (hN : 3000000000 ≤ N) (x1 : Int32) (x2 : Int32) (x3 : Int32) (x4 : Int32) (r4 : Int32) (v7 : Int32) (y145_8 : Int32) (y90_6 : Int32) (g51 : (Nat → Int32) → Int64 → (Nat → Nat → Int32) → Int32 → Option (Int32 × (Nat → Int32) × Int64 × (Nat → Nat → Int32))) (g90 : (Nat → Int32) → Int64 → (Nat → Nat → Int32) → Int32 → Int32 → Option (Int32 × (Nat → Int32) × Int64 × (Nat → Nat → Int32))) (g145 : (Nat → Int32) → Int64 → (Nat → Nat → Int32) → Int32 → Int32 → Option (Int32 × (Nat → Int32) × Int64 × (Nat → Nat → Int32))) (h_x1 : 0 ≤ x1.toInt ∧ x1.toInt ≤ 5) (h_x2 : 0 ≤ x2.toInt ∧ x2.toInt ≤ 19) (h_x3 : 0 ≤ x3.toInt ∧ x3.toInt ≤ 1000000) (h_x4 : 0 ≤ x4.toInt ∧ x4.toInt ≤ 10) (h_r4 : 0 ≤ r4.toInt ∧ r4.toInt ≤ 359) (h_y90_6 : 0 ≤ y90_6.toInt ∧ y90_6.toInt ≤ 6) (hg90 : ∀ (q0 : (Nat → Int32)) (q1 : Int64) (q2 : (Nat → Nat → Int32)) (q3 : Int32) (q4 : Int32), (0 ≤ q4.toInt ∧ q4.toInt ≤ 7) → (KX12 q0 q2) → (y90_6.toInt < q4.toInt) → wq (g90 q0 q1 q2 q3 q4) (fun r => KX12 r.2.1 r.2.2.2 ∧ True)) : ∀ (fu : Nat) (I0_l187 : (Nat → Int32)) (L0_l187 : Int64) (M0_l187 : (Nat → Nat → Int32)) (y187_9 : Int32), (1 ≤ y187_9.toInt ∧ y187_9.toInt ≤ 4) → (KX12 I0_l187 M0_l187) → ER N I0_l187 L0_l187 M0_l187 y90_6 x3 r4 (4 : Int32) y145_8 → (4 - y187_9.toInt) < (fu : Int) → wq (fX12_errors_L187 N x1 x2 x3 x4 r4 v7 y145_8 y90_6 g51 g90 g145 fu I0_l187 L0_l187 M0_l187 y187_9) (fun r => KX12 r.2.1 r.2.2.2 ∧ True) := by
  intro fu
  induction fu with
  | zero => intro I0_l187 L0_l187 M0_l187 y187_9 h_y187_9 k_I0_l187 hE hm; exfalso; omega
  | succ fu ih =>
    intro I0_l187 L0_l187 M0_l187 y187_9 h_y187_9 k_I0_l187 hE hm
    rw [fX12_errors_L187.eq_2]
    have l_4 := il_4
    refine wq_le (fun hc_43300 => ?_) (fun hc_43301 => ?_)
    · have l_1 := il_1
      have t_43303 := ia_add y90_6 (1 : Int32) (by omega) (by omega)
      refine wq_v (fun v11_q43302 h_v11_q43302 => ?_)
      have t_v11_q43302 := congrArg Int32.toInt h_v11_q43302
      have b_43304 := i32b v7
      exact hg90 I0_l187 L0_l187 M0_l187 v7 v11_q43302 ⟨by omega, by omega⟩ k_I0_l187 (by omega)
    · refine wq_be (tt_fX12_placeOn hN I0_l187 L0_l187 M0_l187 y187_9 y90_6 x3 ⟨by omega, by omega⟩ ⟨by omega, by omega⟩ k_I0_l187) (fun r12_q43305 hpl h_r12_q43305 => ?_)
      obtain ⟨-⟩ := h_r12_q43305
      have b_43306 := i32b r12_q43305
      have l_60 := il_60
      have t_43307 := i32b r12_q43305
      have t_43308 := ia_div2 r12_q43305 (60 : Int32) 60 il_60 (by decide)
      refine wq_eq (fun hc_43309 => ?_) (fun hc_43310 => ?_)
      · refine wq_in (n := 4) ⟨by omega, by omega⟩ ?_
        refine wq_in (n := 4) ⟨by omega, by omega⟩ ?_
        refine wq_v (fun M0_13_q43311 h_M0_13_q43311 => ?_)
        have k_M0_13_q43311 : KX12 I0_l187 M0_13_q43311 := by rw [h_M0_13_q43311]; exact KX12.sm20 k_I0_l187
        refine wq_in (n := 4) ⟨by omega, by omega⟩ ?_
        have b_43312 := i32b y145_8
        have l_1 := il_1
        refine wq_eq (fun hc_43313 => ?_) (fun hc_43314 => ?_)
        · unfold fX12_errors_J243
          refine wq_in (n := 4) ⟨by omega, by omega⟩ ?_
          refine wq_v (fun M0_8_q43315 h_M0_8_q43315 => ?_)
          have k_M0_8_q43315 : KX12 I0_l187 M0_8_q43315 := by rw [h_M0_8_q43315]; exact KX12.sm21 k_M0_13_q43311
          refine wq_in (n := 4) ⟨by omega, by omega⟩ ?_
          refine wq_nz (by have hb := hE.2.2 _ _ (by omega) (by omega) hpl hc_43309; omega) ?_
          refine wq_in (n := 4) ⟨by omega, by omega⟩ ?_
          refine wq_v (fun M0_9_q43316 h_M0_9_q43316 => ?_)
          have k_M0_9_q43316 : KX12 I0_l187 M0_9_q43316 := by rw [h_M0_9_q43316]; exact KX12.sm22 k_M0_8_q43315
          have t_43318 := ia_add y187_9 (1 : Int32) (by omega) (by omega)
          refine wq_v (fun v10_q43317 h_v10_q43317 => ?_)
          have t_v10_q43317 := congrArg Int32.toInt h_v10_q43317
          exact ih I0_l187 L0_l187 M0_9_q43316 v10_q43317 ⟨by omega, by omega⟩ k_M0_9_q43316 (by rw [h_M0_9_q43316, h_M0_8_q43315, h_M0_13_q43311]; exact ER_um (by decide) (ER_um (by decide) (ER_um (by decide) hE))) (by omega)
        · unfold fX12_errors_J243
          refine wq_in (n := 4) ⟨by omega, by omega⟩ ?_
          refine wq_v (fun M0_8_q43319 h_M0_8_q43319 => ?_)
          have k_M0_8_q43319 : KX12 I0_l187 M0_8_q43319 := by rw [h_M0_8_q43319]; exact KX12.sm21 k_M0_13_q43311
          refine wq_in (n := 4) ⟨by omega, by omega⟩ ?_
          refine wq_nz (by have hb := hE.2.2 _ _ (by omega) (by omega) hpl hc_43309; omega) ?_
          refine wq_in (n := 4) ⟨by omega, by omega⟩ ?_
          refine wq_v (fun M0_9_q43320 h_M0_9_q43320 => ?_)
          have k_M0_9_q43320 : KX12 I0_l187 M0_9_q43320 := by rw [h_M0_9_q43320]; exact KX12.sm22 k_M0_8_q43319
          have t_43322 := ia_add y187_9 (1 : Int32) (by omega) (by omega)
          refine wq_v (fun v10_q43321 h_v10_q43321 => ?_)
          have t_v10_q43321 := congrArg Int32.toInt h_v10_q43321
          exact ih I0_l187 L0_l187 M0_9_q43320 v10_q43321 ⟨by omega, by omega⟩ k_M0_9_q43320 (by rw [h_M0_9_q43320, h_M0_8_q43319, h_M0_13_q43311]; exact ER_um (by decide) (ER_um (by decide) (ER_um (by decide) hE))) (by omega)
      · have l_1 := il_1
        have t_43324 := ia_add y187_9 (1 : Int32) (by omega) (by omega)
        refine wq_v (fun v14_q43323 h_v14_q43323 => ?_)
        have t_v14_q43323 := congrArg Int32.toInt h_v14_q43323
        exact ih I0_l187 L0_l187 M0_l187 v14_q43323 ⟨by omega, by omega⟩ k_I0_l187 hE (by omega)

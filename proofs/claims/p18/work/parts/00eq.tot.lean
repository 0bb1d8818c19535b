set_option maxHeartbeats 4000000 in
theorem tt_fX12_seek {N : Nat} (hN : 3000000000 ≤ N) (I0 : Nat → Int32) (L0 : Int64) (M0 : Nat → Nat → Int32) (x1 : Int32) (x2 : Int32) (x3 : Int32) (x4 : Int32) (k_I0 : KX12 I0 M0) : wq (fX12_seek N I0 L0 M0 x1 x2 x3 x4) (fun r => KX12 r.1 r.2.2 ∧ True) := by
  unfold fX12_seek
  have b_36343 := i32b x1
  have b_36344 := i32b x2
  refine wq_b (tt_fX12_isWheel hN I0 L0 M0 x1 x2 k_I0) (fun r10_q36345 h_r10_q36345 => ?_)
  obtain ⟨h_r10_q36345_0, h_r10_q36345_1, h_r10_q36345_2, h_r10_q36345_3, -⟩ := h_r10_q36345
  have t_36346 := KX12.i1 h_r10_q36345_3
  have t_36347 := KX12.i1 k_I0
  have l_0 := il_0
  refine wq_eq (fun hc_36348 => ?_) (fun hc_36349 => ?_)
  · exact wq_s ⟨h_r10_q36345_3, trivial⟩
  · have b_36350 := i32b x3
    have l_3 := il_3
    refine wq_b (tt_fX12_within hN x3 (0 : Int32) (3 : Int32)) (fun r11_q36351 h_r11_q36351 => ?_)
    obtain ⟨h_r11_q36351_0, h_r11_q36351_1, -⟩ := h_r11_q36351
    refine wq_eq (fun hc_36352 => ?_) (fun hc_36353 => ?_)
    · unfold fX12_seek_J34
      unfold fX12_seek_J35
      have l_1 := il_1
      refine wq_b (tt_fX12_right hN r10_q36345.2.1 r10_q36345.2.2.1 r10_q36345.2.2.2 (0 : Int32) (1 : Int32) ⟨by omega, by omega⟩ h_r10_q36345_3) (fun r1_q36354 h_r1_q36354 => ?_)
      obtain ⟨h_r1_q36354_0, h_r1_q36354_1, h_r1_q36354_2, h_r1_q36354_3, -⟩ := h_r1_q36354
      have t_36355 := KX12.i1 h_r1_q36354_3
      refine wq_eq (fun hc_36356 => ?_) (fun hc_36357 => ?_)
      · exact wq_s ⟨h_r1_q36354_3, trivial⟩
      · refine wq_v (fun I0_2_q36358 h_I0_2_q36358 => ?_)
        have k_I0_2_q36358 : KX12 I0_2_q36358 r1_q36354.2.2.2 := by rw [h_I0_2_q36358]; exact KX12.si16 h_r1_q36354_3 ⟨by omega, by omega⟩
        refine wq_in (n := 7) ⟨by omega, by omega⟩ ?_
        refine wq_v (fun M0_3_q36359 h_M0_3_q36359 => ?_)
        have l_20 := il_20
        have t_36360 := ia_mul (20 : Int32) (20) il_20 x1 (by omega) (by omega)
        have t_36361 := ia_add ((20 : Int32) * x1) x2 (by omega) (by omega)
        have k_M0_3_q36359 : KX12 I0_2_q36358 M0_3_q36359 := by rw [h_M0_3_q36359]; exact KX12.sm18 k_I0_2_q36358 (SR.um (KX12.ese k_I0_2_q36358) (fun _ => ⟨by omega, by omega⟩) (fun q => absurd q (by decide)) (fun q => absurd q (by decide)))
        refine wq_in (n := 7) ⟨by omega, by omega⟩ ?_
        refine wq_v (fun M0_4_q36362 h_M0_4_q36362 => ?_)
        have k_M0_4_q36362 : KX12 I0_2_q36358 M0_4_q36362 := by rw [h_M0_4_q36362]; exact KX12.sm18 k_M0_3_q36359 (SR.um (KX12.ese k_M0_3_q36359) (fun q => absurd q (by decide)) (fun _ => ⟨by omega, by omega⟩) (fun q => absurd q (by decide)))
        have l_2 := il_2
        refine wq_in (n := 7) ⟨by omega, by omega⟩ ?_
        refine wq_v (fun M0_5_q36363 h_M0_5_q36363 => ?_)
        have b_36364 := i32b x4
        have k_M0_5_q36363 : KX12 I0_2_q36358 M0_5_q36363 := by rw [h_M0_5_q36363]; exact KX12.sm18 k_M0_4_q36362 (SR.um (KX12.ese k_M0_4_q36362) (fun q => absurd q (by decide)) (fun q => absurd q (by decide)) (fun _ => ⟨by omega, by omega⟩))
        refine wq_in (n := 7) ⟨by omega, by omega⟩ ?_
        refine wq_v (fun M0_6_q36365 h_M0_6_q36365 => ?_)
        have k_M0_6_q36365 : KX12 I0_2_q36358 M0_6_q36365 := by rw [h_M0_6_q36365]; exact KX12.sm18 k_M0_5_q36363 (SR.um (KX12.ese k_M0_5_q36363) (fun q => absurd q (by decide)) (fun q => absurd q (by decide)) (fun q => absurd q (by decide)))
        have l_4 := il_4
        refine wq_in (n := 7) ⟨by omega, by omega⟩ ?_
        refine wq_v (fun M0_7_q36366 h_M0_7_q36366 => ?_)
        have k_M0_7_q36366 : KX12 I0_2_q36358 M0_7_q36366 := by rw [h_M0_7_q36366]; exact KX12.sm18 k_M0_6_q36365 (SR.um (KX12.ese k_M0_6_q36365) (fun q => absurd q (by decide)) (fun q => absurd q (by decide)) (fun q => absurd q (by decide)))
        have l_5 := il_5
        refine wq_in (n := 7) ⟨by omega, by omega⟩ ?_
        refine wq_v (fun M0_8_q36367 h_M0_8_q36367 => ?_)
        have k_M0_8_q36367 : KX12 I0_2_q36358 M0_8_q36367 := by rw [h_M0_8_q36367]; exact KX12.sm18 k_M0_7_q36366 (SR.um (KX12.ese k_M0_7_q36366) (fun q => absurd q (by decide)) (fun q => absurd q (by decide)) (fun q => absurd q (by decide)))
        have l_6 := il_6
        refine wq_in (n := 7) ⟨by omega, by omega⟩ ?_
        refine wq_v (fun M0_9_q36368 h_M0_9_q36368 => ?_)
        have k_M0_9_q36368 : KX12 I0_2_q36358 M0_9_q36368 := by rw [h_M0_9_q36368]; exact KX12.sm18 k_M0_8_q36367 (SR.um (KX12.ese k_M0_8_q36367) (fun q => absurd q (by decide)) (fun q => absurd q (by decide)) (fun q => absurd q (by decide)))
        exact wq_s ⟨k_M0_9_q36368, trivial⟩
    · have b_36369 := i32b x4
      have l_1000000 := il_1000000
      refine wq_b (tt_fX12_within hN x4 (0 : Int32) (1000000 : Int32)) (fun r12_q36370 h_r12_q36370 => ?_)
      obtain ⟨h_r12_q36370_0, h_r12_q36370_1, -⟩ := h_r12_q36370
      refine wq_eq (fun hc_36371 => ?_) (fun hc_36372 => ?_)
      · unfold fX12_seek_J34
        unfold fX12_seek_J35
        have l_1 := il_1
        refine wq_b (tt_fX12_right hN r10_q36345.2.1 r10_q36345.2.2.1 r10_q36345.2.2.2 (0 : Int32) (1 : Int32) ⟨by omega, by omega⟩ h_r10_q36345_3) (fun r1_q36373 h_r1_q36373 => ?_)
        obtain ⟨h_r1_q36373_0, h_r1_q36373_1, h_r1_q36373_2, h_r1_q36373_3, -⟩ := h_r1_q36373
        have t_36374 := KX12.i1 h_r1_q36373_3
        refine wq_eq (fun hc_36375 => ?_) (fun hc_36376 => ?_)
        · exact wq_s ⟨h_r1_q36373_3, trivial⟩
        · refine wq_v (fun I0_2_q36377 h_I0_2_q36377 => ?_)
          have k_I0_2_q36377 : KX12 I0_2_q36377 r1_q36373.2.2.2 := by rw [h_I0_2_q36377]; exact KX12.si16 h_r1_q36373_3 ⟨by omega, by omega⟩
          refine wq_in (n := 7) ⟨by omega, by omega⟩ ?_
          refine wq_v (fun M0_3_q36378 h_M0_3_q36378 => ?_)
          have l_20 := il_20
          have t_36379 := ia_mul (20 : Int32) (20) il_20 x1 (by omega) (by omega)
          have t_36380 := ia_add ((20 : Int32) * x1) x2 (by omega) (by omega)
          have k_M0_3_q36378 : KX12 I0_2_q36377 M0_3_q36378 := by rw [h_M0_3_q36378]; exact KX12.sm18 k_I0_2_q36377 (SR.um (KX12.ese k_I0_2_q36377) (fun _ => ⟨by omega, by omega⟩) (fun q => absurd q (by decide)) (fun q => absurd q (by decide)))
          refine wq_in (n := 7) ⟨by omega, by omega⟩ ?_
          refine wq_v (fun M0_4_q36381 h_M0_4_q36381 => ?_)
          have k_M0_4_q36381 : KX12 I0_2_q36377 M0_4_q36381 := by rw [h_M0_4_q36381]; exact KX12.sm18 k_M0_3_q36378 (SR.um (KX12.ese k_M0_3_q36378) (fun q => absurd q (by decide)) (fun _ => ⟨by omega, by omega⟩) (fun q => absurd q (by decide)))
          have l_2 := il_2
          refine wq_in (n := 7) ⟨by omega, by omega⟩ ?_
          refine wq_v (fun M0_5_q36382 h_M0_5_q36382 => ?_)
          have k_M0_5_q36382 : KX12 I0_2_q36377 M0_5_q36382 := by rw [h_M0_5_q36382]; exact KX12.sm18 k_M0_4_q36381 (SR.um (KX12.ese k_M0_4_q36381) (fun q => absurd q (by decide)) (fun q => absurd q (by decide)) (fun _ => ⟨by omega, by omega⟩))
          refine wq_in (n := 7) ⟨by omega, by omega⟩ ?_
          refine wq_v (fun M0_6_q36383 h_M0_6_q36383 => ?_)
          have k_M0_6_q36383 : KX12 I0_2_q36377 M0_6_q36383 := by rw [h_M0_6_q36383]; exact KX12.sm18 k_M0_5_q36382 (SR.um (KX12.ese k_M0_5_q36382) (fun q => absurd q (by decide)) (fun q => absurd q (by decide)) (fun q => absurd q (by decide)))
          have l_4 := il_4
          refine wq_in (n := 7) ⟨by omega, by omega⟩ ?_
          refine wq_v (fun M0_7_q36384 h_M0_7_q36384 => ?_)
          have k_M0_7_q36384 : KX12 I0_2_q36377 M0_7_q36384 := by rw [h_M0_7_q36384]; exact KX12.sm18 k_M0_6_q36383 (SR.um (KX12.ese k_M0_6_q36383) (fun q => absurd q (by decide)) (fun q => absurd q (by decide)) (fun q => absurd q (by decide)))
          have l_5 := il_5
          refine wq_in (n := 7) ⟨by omega, by omega⟩ ?_
          refine wq_v (fun M0_8_q36385 h_M0_8_q36385 => ?_)
          have k_M0_8_q36385 : KX12 I0_2_q36377 M0_8_q36385 := by rw [h_M0_8_q36385]; exact KX12.sm18 k_M0_7_q36384 (SR.um (KX12.ese k_M0_7_q36384) (fun q => absurd q (by decide)) (fun q => absurd q (by decide)) (fun q => absurd q (by decide)))
          have l_6 := il_6
          refine wq_in (n := 7) ⟨by omega, by omega⟩ ?_
          refine wq_v (fun M0_9_q36386 h_M0_9_q36386 => ?_)
          have k_M0_9_q36386 : KX12 I0_2_q36377 M0_9_q36386 := by rw [h_M0_9_q36386]; exact KX12.sm18 k_M0_8_q36385 (SR.um (KX12.ese k_M0_8_q36385) (fun q => absurd q (by decide)) (fun q => absurd q (by decide)) (fun q => absurd q (by decide)))
          exact wq_s ⟨k_M0_9_q36386, trivial⟩
      · unfold fX12_seek_J35
        have l_1 := il_1
        refine wq_b (tt_fX12_right hN r10_q36345.2.1 r10_q36345.2.2.1 r10_q36345.2.2.2 (1 : Int32) (1 : Int32) ⟨by omega, by omega⟩ h_r10_q36345_3) (fun r1_q36387 h_r1_q36387 => ?_)
        obtain ⟨h_r1_q36387_0, h_r1_q36387_1, h_r1_q36387_2, h_r1_q36387_3, -⟩ := h_r1_q36387
        have t_36388 := KX12.i1 h_r1_q36387_3
        refine wq_eq (fun hc_36389 => ?_) (fun hc_36390 => ?_)
        · exact wq_s ⟨h_r1_q36387_3, trivial⟩
        · refine wq_v (fun I0_2_q36391 h_I0_2_q36391 => ?_)
          have k_I0_2_q36391 : KX12 I0_2_q36391 r1_q36387.2.2.2 := by rw [h_I0_2_q36391]; exact KX12.si16 h_r1_q36387_3 ⟨by omega, by omega⟩
          refine wq_in (n := 7) ⟨by omega, by omega⟩ ?_
          refine wq_v (fun M0_3_q36392 h_M0_3_q36392 => ?_)
          have l_20 := il_20
          have t_36393 := ia_mul (20 : Int32) (20) il_20 x1 (by omega) (by omega)
          have t_36394 := ia_add ((20 : Int32) * x1) x2 (by omega) (by omega)
          have k_M0_3_q36392 : KX12 I0_2_q36391 M0_3_q36392 := by rw [h_M0_3_q36392]; exact KX12.sm18 k_I0_2_q36391 (SR.um (KX12.ese k_I0_2_q36391) (fun _ => ⟨by omega, by omega⟩) (fun q => absurd q (by decide)) (fun q => absurd q (by decide)))
          refine wq_in (n := 7) ⟨by omega, by omega⟩ ?_
          refine wq_v (fun M0_4_q36395 h_M0_4_q36395 => ?_)
          have k_M0_4_q36395 : KX12 I0_2_q36391 M0_4_q36395 := by rw [h_M0_4_q36395]; exact KX12.sm18 k_M0_3_q36392 (SR.um (KX12.ese k_M0_3_q36392) (fun q => absurd q (by decide)) (fun _ => ⟨by omega, by omega⟩) (fun q => absurd q (by decide)))
          have l_2 := il_2
          refine wq_in (n := 7) ⟨by omega, by omega⟩ ?_
          refine wq_v (fun M0_5_q36396 h_M0_5_q36396 => ?_)
          have k_M0_5_q36396 : KX12 I0_2_q36391 M0_5_q36396 := by rw [h_M0_5_q36396]; exact KX12.sm18 k_M0_4_q36395 (SR.um (KX12.ese k_M0_4_q36395) (fun q => absurd q (by decide)) (fun q => absurd q (by decide)) (fun _ => ⟨by omega, by omega⟩))
          refine wq_in (n := 7) ⟨by omega, by omega⟩ ?_
          refine wq_v (fun M0_6_q36397 h_M0_6_q36397 => ?_)
          have k_M0_6_q36397 : KX12 I0_2_q36391 M0_6_q36397 := by rw [h_M0_6_q36397]; exact KX12.sm18 k_M0_5_q36396 (SR.um (KX12.ese k_M0_5_q36396) (fun q => absurd q (by decide)) (fun q => absurd q (by decide)) (fun q => absurd q (by decide)))
          have l_4 := il_4
          refine wq_in (n := 7) ⟨by omega, by omega⟩ ?_
          refine wq_v (fun M0_7_q36398 h_M0_7_q36398 => ?_)
          have k_M0_7_q36398 : KX12 I0_2_q36391 M0_7_q36398 := by rw [h_M0_7_q36398]; exact KX12.sm18 k_M0_6_q36397 (SR.um (KX12.ese k_M0_6_q36397) (fun q => absurd q (by decide)) (fun q => absurd q (by decide)) (fun q => absurd q (by decide)))
          have l_5 := il_5
          refine wq_in (n := 7) ⟨by omega, by omega⟩ ?_
          refine wq_v (fun M0_8_q36399 h_M0_8_q36399 => ?_)
          have k_M0_8_q36399 : KX12 I0_2_q36391 M0_8_q36399 := by rw [h_M0_8_q36399]; exact KX12.sm18 k_M0_7_q36398 (SR.um (KX12.ese k_M0_7_q36398) (fun q => absurd q (by decide)) (fun q => absurd q (by decide)) (fun q => absurd q (by decide)))
          have l_6 := il_6
          refine wq_in (n := 7) ⟨by omega, by omega⟩ ?_
          refine wq_v (fun M0_9_q36400 h_M0_9_q36400 => ?_)
          have k_M0_9_q36400 : KX12 I0_2_q36391 M0_9_q36400 := by rw [h_M0_9_q36400]; exact KX12.sm18 k_M0_8_q36399 (SR.um (KX12.ese k_M0_8_q36399) (fun q => absurd q (by decide)) (fun q => absurd q (by decide)) (fun q => absurd q (by decide)))
          exact wq_s ⟨k_M0_9_q36400, trivial⟩
set_option maxHeartbeats 4000000 in
theorem tt_fX12_on_L37 {N : Nat} (hN : 3000000000 ≤ N) (x1 : Int32) (h_x1 : 0 ≤ x1.toInt ∧ x1.toInt ≤ 50000)  : ∀ (fu : Nat) (I0_l37 : (Nat → Int32)) (L0_l37 : Int64) (M0_l37 : (Nat → Nat → Int32)) (y37_2 : Int32), (0 ≤ y37_2.toInt ∧ y37_2.toInt ≤ 50000) → (KX12 I0_l37 M0_l37) → (50000 - y37_2.toInt) < (fu : Int) → wq (fX12_on_L37 N x1 fu I0_l37 L0_l37 M0_l37 y37_2) (fun r => (0 ≤ r.1.toInt ∧ r.1.toInt ≤ 50000) ∧ KX12 r.2.1 r.2.2.2 ∧ True) := by
  intro fu
  induction fu with
  | zero => intro I0_l37 L0_l37 M0_l37 y37_2 h_y37_2 k_I0_l37 hm; exfalso; omega
  | succ fu ih =>
    intro I0_l37 L0_l37 M0_l37 y37_2 h_y37_2 k_I0_l37 hm
    rw [fX12_on_L37.eq_2]
    refine wq_le (fun hc_38687 => ?_) (fun hc_38688 => ?_)
    · exact wq_s ⟨(show 0 ≤ y37_2.toInt ∧ y37_2.toInt ≤ 50000 from ⟨by omega, by omega⟩), k_I0_l37, trivial⟩
    · have l_2 := il_2
      refine wq_in (n := 7) ⟨by omega, by omega⟩ ?_
      have l_1000000 := il_1000000
      have t_38689 : 0 ≤ (M0_l37 18 (2 : Int32).toNatClampNeg).toInt ∧ (M0_l37 18 (2 : Int32).toNatClampNeg).toInt ≤ 1000001 := (KX12.ese k_I0_l37).2.2
      refine wq_lt (fun hc_38690 => ?_) (fun hc_38691 => ?_)
      · exact wq_s ⟨(show 0 ≤ y37_2.toInt ∧ y37_2.toInt ≤ 50000 from ⟨by omega, by omega⟩), k_I0_l37, trivial⟩
      · refine wq_in (n := 7) ⟨by omega, by omega⟩ ?_
        refine wq_v (fun v13_q38692 h_v13_q38692 => ?_)
        have t_v13_q38692 := congrArg Int32.toInt h_v13_q38692
        have l_0 := il_0
        refine wq_in (n := 7) ⟨by omega, by omega⟩ ?_
        have l_1 := il_1
        refine wq_in (n := 7) ⟨by omega, by omega⟩ ?_
        have l_3 := il_3
        refine wq_in (n := 7) ⟨by omega, by omega⟩ ?_
        have l_m1 := il_m1
        refine wq_eq (fun hc_38693 => ?_) (fun hc_38694 => ?_)
        · unfold fX12_on_J96
          have t_38695 : 0 ≤ (M0_l37 18 (0 : Int32).toNatClampNeg).toInt ∧ (M0_l37 18 (0 : Int32).toNatClampNeg).toInt ≤ 119 := (KX12.ese k_I0_l37).1
          have t_38696 : 0 ≤ (M0_l37 18 (1 : Int32).toNatClampNeg).toInt ∧ (M0_l37 18 (1 : Int32).toNatClampNeg).toInt ≤ 3 := (KX12.ese k_I0_l37).2.1
          have l_999 := il_999
          refine wq_b (tt_fX12_costOn hN I0_l37 L0_l37 M0_l37 (M0_l37 18 (0 : Int32).toNatClampNeg) (M0_l37 18 (1 : Int32).toNatClampNeg) v13_q38692 (999 : Int32) ⟨by omega, by omega⟩ ⟨by omega, by omega⟩ k_I0_l37) (fun r12_q38697 h_r12_q38697 => ?_)
          obtain ⟨h_r12_q38697_0, -⟩ := h_r12_q38697
          refine wq_in (n := 7) ⟨by omega, by omega⟩ ?_
          refine wq_eq (fun hc_38698 => ?_) (fun hc_38699 => ?_)
          · unfold fX12_on_J122
            refine wq_in (n := 7) ⟨by omega, by omega⟩ ?_
            refine wq_v (fun M0_9_q38700 h_M0_9_q38700 => ?_)
            have k_M0_9_q38700 : KX12 I0_l37 M0_9_q38700 := by rw [h_M0_9_q38700]; exact KX12.sm18 k_I0_l37 (SR.um (KX12.ese k_I0_l37) (fun q => absurd q (by decide)) (fun q => absurd q (by decide)) (fun q => absurd q (by decide)))
            have l_4 := il_4
            refine wq_in (n := 7) ⟨by omega, by omega⟩ ?_
            refine wq_v (fun M0_10_q38701 h_M0_10_q38701 => ?_)
            have k_M0_10_q38701 : KX12 I0_l37 M0_10_q38701 := by rw [h_M0_10_q38701]; exact KX12.sm18 k_M0_9_q38700 (SR.um (KX12.ese k_M0_9_q38700) (fun q => absurd q (by decide)) (fun q => absurd q (by decide)) (fun q => absurd q (by decide)))
            have l_5 := il_5
            refine wq_in (n := 7) ⟨by omega, by omega⟩ ?_
            refine wq_v (fun M0_11_q38702 h_M0_11_q38702 => ?_)
            have k_M0_11_q38702 : KX12 I0_l37 M0_11_q38702 := by rw [h_M0_11_q38702]; exact KX12.sm18 k_M0_10_q38701 (SR.um (KX12.ese k_M0_10_q38701) (fun q => absurd q (by decide)) (fun q => absurd q (by decide)) (fun q => absurd q (by decide)))
            unfold fX12_on_J144
            refine wq_in (n := 7) ⟨by omega, by omega⟩ ?_
            have t_38703 : (M0_9_q38700 18 (3 : Int32).toNatClampNeg).toInt = r12_q38697.toInt := by rw [h_M0_9_q38700]; rfl
            have t_38704 : (M0_10_q38701 18 (3 : Int32).toNatClampNeg).toInt = (M0_9_q38700 18 (3 : Int32).toNatClampNeg).toInt := by rw [h_M0_10_q38701]; rfl
            have t_38705 : (M0_11_q38702 18 (3 : Int32).toNatClampNeg).toInt = (M0_10_q38701 18 (3 : Int32).toNatClampNeg).toInt := by rw [h_M0_11_q38702]; rfl
            refine wq_eq (fun hc_38706 => ?_) (fun hc_38707 => ?_)
            · refine wq_in (n := 7) ⟨by omega, by omega⟩ ?_
              refine wq_in (n := 7) ⟨by omega, by omega⟩ ?_
              refine wq_v (fun M0_7_q38708 h_M0_7_q38708 => ?_)
              have k_M0_7_q38708 : KX12 I0_l37 M0_7_q38708 := by rw [h_M0_7_q38708]; exact KX12.sm18 k_M0_11_q38702 (SR.um (KX12.ese k_M0_11_q38702) (fun q => absurd q (by decide)) (fun q => absurd q (by decide)) (fun q => absurd q (by decide)))
              have l_6 := il_6
              refine wq_in (n := 7) ⟨by omega, by omega⟩ ?_
              refine wq_v (fun M0_8_q38709 h_M0_8_q38709 => ?_)
              have k_M0_8_q38709 : KX12 I0_l37 M0_8_q38709 := by rw [h_M0_8_q38709]; exact KX12.sm18 k_M0_7_q38708 (SR.um (KX12.ese k_M0_7_q38708) (fun q => absurd q (by decide)) (fun q => absurd q (by decide)) (fun q => absurd q (by decide)))
              unfold fX12_on_J173
              refine wq_in (n := 7) ⟨by omega, by omega⟩ ?_
              refine wq_in (n := 7) ⟨by omega, by omega⟩ ?_
              refine wq_v (fun M0_5_q38710 h_M0_5_q38710 => ?_)
              have t_38711 : (M0_9_q38700 18 (2 : Int32).toNatClampNeg).toInt = (M0_l37 18 (2 : Int32).toNatClampNeg).toInt := by rw [h_M0_9_q38700]; rfl
              have t_38712 : (M0_10_q38701 18 (2 : Int32).toNatClampNeg).toInt = (M0_9_q38700 18 (2 : Int32).toNatClampNeg).toInt := by rw [h_M0_10_q38701]; rfl
              have t_38713 : (M0_11_q38702 18 (2 : Int32).toNatClampNeg).toInt = (M0_10_q38701 18 (2 : Int32).toNatClampNeg).toInt := by rw [h_M0_11_q38702]; rfl
              have t_38714 : (M0_7_q38708 18 (2 : Int32).toNatClampNeg).toInt = (M0_11_q38702 18 (2 : Int32).toNatClampNeg).toInt := by rw [h_M0_7_q38708]; rfl
              have t_38715 : (M0_8_q38709 18 (2 : Int32).toNatClampNeg).toInt = (M0_7_q38708 18 (2 : Int32).toNatClampNeg).toInt := by rw [h_M0_8_q38709]; rfl
              have t_38716 := ia_add (M0_8_q38709 18 (2 : Int32).toNatClampNeg) (1 : Int32) (by omega) (by omega)
              have k_M0_5_q38710 : KX12 I0_l37 M0_5_q38710 := by rw [h_M0_5_q38710]; exact KX12.sm18 k_M0_8_q38709 (SR.um (KX12.ese k_M0_8_q38709) (fun q => absurd q (by decide)) (fun q => absurd q (by decide)) (fun _ => ⟨by omega, by omega⟩))
              have t_38718 := ia_add y37_2 (1 : Int32) (by omega) (by omega)
              refine wq_v (fun v6_q38717 h_v6_q38717 => ?_)
              have t_v6_q38717 := congrArg Int32.toInt h_v6_q38717
              exact ih I0_l37 L0_l37 M0_5_q38710 v6_q38717 ⟨by omega, by omega⟩ k_M0_5_q38710 (by omega)
            · unfold fX12_on_J173
              refine wq_in (n := 7) ⟨by omega, by omega⟩ ?_
              refine wq_in (n := 7) ⟨by omega, by omega⟩ ?_
              refine wq_v (fun M0_5_q38719 h_M0_5_q38719 => ?_)
              have t_38720 : (M0_9_q38700 18 (2 : Int32).toNatClampNeg).toInt = (M0_l37 18 (2 : Int32).toNatClampNeg).toInt := by rw [h_M0_9_q38700]; rfl
              have t_38721 : (M0_10_q38701 18 (2 : Int32).toNatClampNeg).toInt = (M0_9_q38700 18 (2 : Int32).toNatClampNeg).toInt := by rw [h_M0_10_q38701]; rfl
              have t_38722 : (M0_11_q38702 18 (2 : Int32).toNatClampNeg).toInt = (M0_10_q38701 18 (2 : Int32).toNatClampNeg).toInt := by rw [h_M0_11_q38702]; rfl
              have t_38723 := ia_add (M0_11_q38702 18 (2 : Int32).toNatClampNeg) (1 : Int32) (by omega) (by omega)
              have k_M0_5_q38719 : KX12 I0_l37 M0_5_q38719 := by rw [h_M0_5_q38719]; exact KX12.sm18 k_M0_11_q38702 (SR.um (KX12.ese k_M0_11_q38702) (fun q => absurd q (by decide)) (fun q => absurd q (by decide)) (fun _ => ⟨by omega, by omega⟩))
              have t_38725 := ia_add y37_2 (1 : Int32) (by omega) (by omega)
              refine wq_v (fun v6_q38724 h_v6_q38724 => ?_)
              have t_v6_q38724 := congrArg Int32.toInt h_v6_q38724
              exact ih I0_l37 L0_l37 M0_5_q38719 v6_q38724 ⟨by omega, by omega⟩ k_M0_5_q38719 (by omega)
          · exfalso; omega
        · refine wq_in (n := 7) ⟨by omega, by omega⟩ ?_
          unfold fX12_on_J96
          have t_38726 : 0 ≤ (M0_l37 18 (0 : Int32).toNatClampNeg).toInt ∧ (M0_l37 18 (0 : Int32).toNatClampNeg).toInt ≤ 119 := (KX12.ese k_I0_l37).1
          have t_38727 : 0 ≤ (M0_l37 18 (1 : Int32).toNatClampNeg).toInt ∧ (M0_l37 18 (1 : Int32).toNatClampNeg).toInt ≤ 3 := (KX12.ese k_I0_l37).2.1
          refine wq_b (tt_fX12_costOn hN I0_l37 L0_l37 M0_l37 (M0_l37 18 (0 : Int32).toNatClampNeg) (M0_l37 18 (1 : Int32).toNatClampNeg) v13_q38692 (M0_l37 18 (3 : Int32).toNatClampNeg) ⟨by omega, by omega⟩ ⟨by omega, by omega⟩ k_I0_l37) (fun r12_q38728 h_r12_q38728 => ?_)
          obtain ⟨h_r12_q38728_0, -⟩ := h_r12_q38728
          refine wq_in (n := 7) ⟨by omega, by omega⟩ ?_
          refine wq_eq (fun hc_38729 => ?_) (fun hc_38730 => ?_)
          · unfold fX12_on_J122
            refine wq_in (n := 7) ⟨by omega, by omega⟩ ?_
            refine wq_v (fun M0_9_q38731 h_M0_9_q38731 => ?_)
            have k_M0_9_q38731 : KX12 I0_l37 M0_9_q38731 := by rw [h_M0_9_q38731]; exact KX12.sm18 k_I0_l37 (SR.um (KX12.ese k_I0_l37) (fun q => absurd q (by decide)) (fun q => absurd q (by decide)) (fun q => absurd q (by decide)))
            have l_4 := il_4
            refine wq_in (n := 7) ⟨by omega, by omega⟩ ?_
            refine wq_v (fun M0_10_q38732 h_M0_10_q38732 => ?_)
            have k_M0_10_q38732 : KX12 I0_l37 M0_10_q38732 := by rw [h_M0_10_q38732]; exact KX12.sm18 k_M0_9_q38731 (SR.um (KX12.ese k_M0_9_q38731) (fun q => absurd q (by decide)) (fun q => absurd q (by decide)) (fun q => absurd q (by decide)))
            have l_5 := il_5
            refine wq_in (n := 7) ⟨by omega, by omega⟩ ?_
            refine wq_v (fun M0_11_q38733 h_M0_11_q38733 => ?_)
            have k_M0_11_q38733 : KX12 I0_l37 M0_11_q38733 := by rw [h_M0_11_q38733]; exact KX12.sm18 k_M0_10_q38732 (SR.um (KX12.ese k_M0_10_q38732) (fun q => absurd q (by decide)) (fun q => absurd q (by decide)) (fun q => absurd q (by decide)))
            unfold fX12_on_J144
            refine wq_in (n := 7) ⟨by omega, by omega⟩ ?_
            have t_38734 : (M0_9_q38731 18 (3 : Int32).toNatClampNeg).toInt = r12_q38728.toInt := by rw [h_M0_9_q38731]; rfl
            have t_38735 : (M0_10_q38732 18 (3 : Int32).toNatClampNeg).toInt = (M0_9_q38731 18 (3 : Int32).toNatClampNeg).toInt := by rw [h_M0_10_q38732]; rfl
            have t_38736 : (M0_11_q38733 18 (3 : Int32).toNatClampNeg).toInt = (M0_10_q38732 18 (3 : Int32).toNatClampNeg).toInt := by rw [h_M0_11_q38733]; rfl
            refine wq_eq (fun hc_38737 => ?_) (fun hc_38738 => ?_)
            · refine wq_in (n := 7) ⟨by omega, by omega⟩ ?_
              refine wq_in (n := 7) ⟨by omega, by omega⟩ ?_
              refine wq_v (fun M0_7_q38739 h_M0_7_q38739 => ?_)
              have k_M0_7_q38739 : KX12 I0_l37 M0_7_q38739 := by rw [h_M0_7_q38739]; exact KX12.sm18 k_M0_11_q38733 (SR.um (KX12.ese k_M0_11_q38733) (fun q => absurd q (by decide)) (fun q => absurd q (by decide)) (fun q => absurd q (by decide)))
              have l_6 := il_6
              refine wq_in (n := 7) ⟨by omega, by omega⟩ ?_
              refine wq_v (fun M0_8_q38740 h_M0_8_q38740 => ?_)
              have k_M0_8_q38740 : KX12 I0_l37 M0_8_q38740 := by rw [h_M0_8_q38740]; exact KX12.sm18 k_M0_7_q38739 (SR.um (KX12.ese k_M0_7_q38739) (fun q => absurd q (by decide)) (fun q => absurd q (by decide)) (fun q => absurd q (by decide)))
              unfold fX12_on_J173
              refine wq_in (n := 7) ⟨by omega, by omega⟩ ?_
              refine wq_in (n := 7) ⟨by omega, by omega⟩ ?_
              refine wq_v (fun M0_5_q38741 h_M0_5_q38741 => ?_)
              have t_38742 : (M0_9_q38731 18 (2 : Int32).toNatClampNeg).toInt = (M0_l37 18 (2 : Int32).toNatClampNeg).toInt := by rw [h_M0_9_q38731]; rfl
              have t_38743 : (M0_10_q38732 18 (2 : Int32).toNatClampNeg).toInt = (M0_9_q38731 18 (2 : Int32).toNatClampNeg).toInt := by rw [h_M0_10_q38732]; rfl
              have t_38744 : (M0_11_q38733 18 (2 : Int32).toNatClampNeg).toInt = (M0_10_q38732 18 (2 : Int32).toNatClampNeg).toInt := by rw [h_M0_11_q38733]; rfl
              have t_38745 : (M0_7_q38739 18 (2 : Int32).toNatClampNeg).toInt = (M0_11_q38733 18 (2 : Int32).toNatClampNeg).toInt := by rw [h_M0_7_q38739]; rfl
              have t_38746 : (M0_8_q38740 18 (2 : Int32).toNatClampNeg).toInt = (M0_7_q38739 18 (2 : Int32).toNatClampNeg).toInt := by rw [h_M0_8_q38740]; rfl
              have t_38747 := ia_add (M0_8_q38740 18 (2 : Int32).toNatClampNeg) (1 : Int32) (by omega) (by omega)
              have k_M0_5_q38741 : KX12 I0_l37 M0_5_q38741 := by rw [h_M0_5_q38741]; exact KX12.sm18 k_M0_8_q38740 (SR.um (KX12.ese k_M0_8_q38740) (fun q => absurd q (by decide)) (fun q => absurd q (by decide)) (fun _ => ⟨by omega, by omega⟩))
              have t_38749 := ia_add y37_2 (1 : Int32) (by omega) (by omega)
              refine wq_v (fun v6_q38748 h_v6_q38748 => ?_)
              have t_v6_q38748 := congrArg Int32.toInt h_v6_q38748
              exact ih I0_l37 L0_l37 M0_5_q38741 v6_q38748 ⟨by omega, by omega⟩ k_M0_5_q38741 (by omega)
            · unfold fX12_on_J173
              refine wq_in (n := 7) ⟨by omega, by omega⟩ ?_
              refine wq_in (n := 7) ⟨by omega, by omega⟩ ?_
              refine wq_v (fun M0_5_q38750 h_M0_5_q38750 => ?_)
              have t_38751 : (M0_9_q38731 18 (2 : Int32).toNatClampNeg).toInt = (M0_l37 18 (2 : Int32).toNatClampNeg).toInt := by rw [h_M0_9_q38731]; rfl
              have t_38752 : (M0_10_q38732 18 (2 : Int32).toNatClampNeg).toInt = (M0_9_q38731 18 (2 : Int32).toNatClampNeg).toInt := by rw [h_M0_10_q38732]; rfl
              have t_38753 : (M0_11_q38733 18 (2 : Int32).toNatClampNeg).toInt = (M0_10_q38732 18 (2 : Int32).toNatClampNeg).toInt := by rw [h_M0_11_q38733]; rfl
              have t_38754 := ia_add (M0_11_q38733 18 (2 : Int32).toNatClampNeg) (1 : Int32) (by omega) (by omega)
              have k_M0_5_q38750 : KX12 I0_l37 M0_5_q38750 := by rw [h_M0_5_q38750]; exact KX12.sm18 k_M0_11_q38733 (SR.um (KX12.ese k_M0_11_q38733) (fun q => absurd q (by decide)) (fun q => absurd q (by decide)) (fun _ => ⟨by omega, by omega⟩))
              have t_38756 := ia_add y37_2 (1 : Int32) (by omega) (by omega)
              refine wq_v (fun v6_q38755 h_v6_q38755 => ?_)
              have t_v6_q38755 := congrArg Int32.toInt h_v6_q38755
              exact ih I0_l37 L0_l37 M0_5_q38750 v6_q38755 ⟨by omega, by omega⟩ k_M0_5_q38750 (by omega)
          · refine wq_in (n := 7) ⟨by omega, by omega⟩ ?_
            refine wq_le (fun hc_38757 => ?_) (fun hc_38758 => ?_)
            · unfold fX12_on_J144
              refine wq_in (n := 7) ⟨by omega, by omega⟩ ?_
              refine wq_eq (fun hc_38759 => ?_) (fun hc_38760 => ?_)
              · have l_4 := il_4
                refine wq_in (n := 7) ⟨by omega, by omega⟩ ?_
                refine wq_in (n := 7) ⟨by omega, by omega⟩ ?_
                refine wq_v (fun M0_7_q38761 h_M0_7_q38761 => ?_)
                have k_M0_7_q38761 : KX12 I0_l37 M0_7_q38761 := by rw [h_M0_7_q38761]; exact KX12.sm18 k_I0_l37 (SR.um (KX12.ese k_I0_l37) (fun q => absurd q (by decide)) (fun q => absurd q (by decide)) (fun q => absurd q (by decide)))
                have l_6 := il_6
                refine wq_in (n := 7) ⟨by omega, by omega⟩ ?_
                refine wq_v (fun M0_8_q38762 h_M0_8_q38762 => ?_)
                have k_M0_8_q38762 : KX12 I0_l37 M0_8_q38762 := by rw [h_M0_8_q38762]; exact KX12.sm18 k_M0_7_q38761 (SR.um (KX12.ese k_M0_7_q38761) (fun q => absurd q (by decide)) (fun q => absurd q (by decide)) (fun q => absurd q (by decide)))
                unfold fX12_on_J173
                refine wq_in (n := 7) ⟨by omega, by omega⟩ ?_
                refine wq_in (n := 7) ⟨by omega, by omega⟩ ?_
                refine wq_v (fun M0_5_q38763 h_M0_5_q38763 => ?_)
                have t_38764 : (M0_7_q38761 18 (2 : Int32).toNatClampNeg).toInt = (M0_l37 18 (2 : Int32).toNatClampNeg).toInt := by rw [h_M0_7_q38761]; rfl
                have t_38765 : (M0_8_q38762 18 (2 : Int32).toNatClampNeg).toInt = (M0_7_q38761 18 (2 : Int32).toNatClampNeg).toInt := by rw [h_M0_8_q38762]; rfl
                have t_38766 := ia_add (M0_8_q38762 18 (2 : Int32).toNatClampNeg) (1 : Int32) (by omega) (by omega)
                have k_M0_5_q38763 : KX12 I0_l37 M0_5_q38763 := by rw [h_M0_5_q38763]; exact KX12.sm18 k_M0_8_q38762 (SR.um (KX12.ese k_M0_8_q38762) (fun q => absurd q (by decide)) (fun q => absurd q (by decide)) (fun _ => ⟨by omega, by omega⟩))
                have t_38768 := ia_add y37_2 (1 : Int32) (by omega) (by omega)
                refine wq_v (fun v6_q38767 h_v6_q38767 => ?_)
                have t_v6_q38767 := congrArg Int32.toInt h_v6_q38767
                exact ih I0_l37 L0_l37 M0_5_q38763 v6_q38767 ⟨by omega, by omega⟩ k_M0_5_q38763 (by omega)
              · unfold fX12_on_J173
                refine wq_in (n := 7) ⟨by omega, by omega⟩ ?_
                refine wq_in (n := 7) ⟨by omega, by omega⟩ ?_
                refine wq_v (fun M0_5_q38769 h_M0_5_q38769 => ?_)
                have t_38770 := ia_add (M0_l37 18 (2 : Int32).toNatClampNeg) (1 : Int32) (by omega) (by omega)
                have k_M0_5_q38769 : KX12 I0_l37 M0_5_q38769 := by rw [h_M0_5_q38769]; exact KX12.sm18 k_I0_l37 (SR.um (KX12.ese k_I0_l37) (fun q => absurd q (by decide)) (fun q => absurd q (by decide)) (fun _ => ⟨by omega, by omega⟩))
                have t_38772 := ia_add y37_2 (1 : Int32) (by omega) (by omega)
                refine wq_v (fun v6_q38771 h_v6_q38771 => ?_)
                have t_v6_q38771 := congrArg Int32.toInt h_v6_q38771
                exact ih I0_l37 L0_l37 M0_5_q38769 v6_q38771 ⟨by omega, by omega⟩ k_M0_5_q38769 (by omega)
            · unfold fX12_on_J122
              refine wq_in (n := 7) ⟨by omega, by omega⟩ ?_
              refine wq_v (fun M0_9_q38773 h_M0_9_q38773 => ?_)
              have k_M0_9_q38773 : KX12 I0_l37 M0_9_q38773 := by rw [h_M0_9_q38773]; exact KX12.sm18 k_I0_l37 (SR.um (KX12.ese k_I0_l37) (fun q => absurd q (by decide)) (fun q => absurd q (by decide)) (fun q => absurd q (by decide)))
              have l_4 := il_4
              refine wq_in (n := 7) ⟨by omega, by omega⟩ ?_
              refine wq_v (fun M0_10_q38774 h_M0_10_q38774 => ?_)
              have k_M0_10_q38774 : KX12 I0_l37 M0_10_q38774 := by rw [h_M0_10_q38774]; exact KX12.sm18 k_M0_9_q38773 (SR.um (KX12.ese k_M0_9_q38773) (fun q => absurd q (by decide)) (fun q => absurd q (by decide)) (fun q => absurd q (by decide)))
              have l_5 := il_5
              refine wq_in (n := 7) ⟨by omega, by omega⟩ ?_
              refine wq_v (fun M0_11_q38775 h_M0_11_q38775 => ?_)
              have k_M0_11_q38775 : KX12 I0_l37 M0_11_q38775 := by rw [h_M0_11_q38775]; exact KX12.sm18 k_M0_10_q38774 (SR.um (KX12.ese k_M0_10_q38774) (fun q => absurd q (by decide)) (fun q => absurd q (by decide)) (fun q => absurd q (by decide)))
              unfold fX12_on_J144
              refine wq_in (n := 7) ⟨by omega, by omega⟩ ?_
              have t_38776 : (M0_9_q38773 18 (3 : Int32).toNatClampNeg).toInt = r12_q38728.toInt := by rw [h_M0_9_q38773]; rfl
              have t_38777 : (M0_10_q38774 18 (3 : Int32).toNatClampNeg).toInt = (M0_9_q38773 18 (3 : Int32).toNatClampNeg).toInt := by rw [h_M0_10_q38774]; rfl
              have t_38778 : (M0_11_q38775 18 (3 : Int32).toNatClampNeg).toInt = (M0_10_q38774 18 (3 : Int32).toNatClampNeg).toInt := by rw [h_M0_11_q38775]; rfl
              refine wq_eq (fun hc_38779 => ?_) (fun hc_38780 => ?_)
              · refine wq_in (n := 7) ⟨by omega, by omega⟩ ?_
                refine wq_in (n := 7) ⟨by omega, by omega⟩ ?_
                refine wq_v (fun M0_7_q38781 h_M0_7_q38781 => ?_)
                have k_M0_7_q38781 : KX12 I0_l37 M0_7_q38781 := by rw [h_M0_7_q38781]; exact KX12.sm18 k_M0_11_q38775 (SR.um (KX12.ese k_M0_11_q38775) (fun q => absurd q (by decide)) (fun q => absurd q (by decide)) (fun q => absurd q (by decide)))
                have l_6 := il_6
                refine wq_in (n := 7) ⟨by omega, by omega⟩ ?_
                refine wq_v (fun M0_8_q38782 h_M0_8_q38782 => ?_)
                have k_M0_8_q38782 : KX12 I0_l37 M0_8_q38782 := by rw [h_M0_8_q38782]; exact KX12.sm18 k_M0_7_q38781 (SR.um (KX12.ese k_M0_7_q38781) (fun q => absurd q (by decide)) (fun q => absurd q (by decide)) (fun q => absurd q (by decide)))
                unfold fX12_on_J173
                refine wq_in (n := 7) ⟨by omega, by omega⟩ ?_
                refine wq_in (n := 7) ⟨by omega, by omega⟩ ?_
                refine wq_v (fun M0_5_q38783 h_M0_5_q38783 => ?_)
                have t_38784 : (M0_9_q38773 18 (2 : Int32).toNatClampNeg).toInt = (M0_l37 18 (2 : Int32).toNatClampNeg).toInt := by rw [h_M0_9_q38773]; rfl
                have t_38785 : (M0_10_q38774 18 (2 : Int32).toNatClampNeg).toInt = (M0_9_q38773 18 (2 : Int32).toNatClampNeg).toInt := by rw [h_M0_10_q38774]; rfl
                have t_38786 : (M0_11_q38775 18 (2 : Int32).toNatClampNeg).toInt = (M0_10_q38774 18 (2 : Int32).toNatClampNeg).toInt := by rw [h_M0_11_q38775]; rfl
                have t_38787 : (M0_7_q38781 18 (2 : Int32).toNatClampNeg).toInt = (M0_11_q38775 18 (2 : Int32).toNatClampNeg).toInt := by rw [h_M0_7_q38781]; rfl
                have t_38788 : (M0_8_q38782 18 (2 : Int32).toNatClampNeg).toInt = (M0_7_q38781 18 (2 : Int32).toNatClampNeg).toInt := by rw [h_M0_8_q38782]; rfl
                have t_38789 := ia_add (M0_8_q38782 18 (2 : Int32).toNatClampNeg) (1 : Int32) (by omega) (by omega)
                have k_M0_5_q38783 : KX12 I0_l37 M0_5_q38783 := by rw [h_M0_5_q38783]; exact KX12.sm18 k_M0_8_q38782 (SR.um (KX12.ese k_M0_8_q38782) (fun q => absurd q (by decide)) (fun q => absurd q (by decide)) (fun _ => ⟨by omega, by omega⟩))
                have t_38791 := ia_add y37_2 (1 : Int32) (by omega) (by omega)
                refine wq_v (fun v6_q38790 h_v6_q38790 => ?_)
                have t_v6_q38790 := congrArg Int32.toInt h_v6_q38790
                exact ih I0_l37 L0_l37 M0_5_q38783 v6_q38790 ⟨by omega, by omega⟩ k_M0_5_q38783 (by omega)
              · unfold fX12_on_J173
                refine wq_in (n := 7) ⟨by omega, by omega⟩ ?_
                refine wq_in (n := 7) ⟨by omega, by omega⟩ ?_
                refine wq_v (fun M0_5_q38792 h_M0_5_q38792 => ?_)
                have t_38793 : (M0_9_q38773 18 (2 : Int32).toNatClampNeg).toInt = (M0_l37 18 (2 : Int32).toNatClampNeg).toInt := by rw [h_M0_9_q38773]; rfl
                have t_38794 : (M0_10_q38774 18 (2 : Int32).toNatClampNeg).toInt = (M0_9_q38773 18 (2 : Int32).toNatClampNeg).toInt := by rw [h_M0_10_q38774]; rfl
                have t_38795 : (M0_11_q38775 18 (2 : Int32).toNatClampNeg).toInt = (M0_10_q38774 18 (2 : Int32).toNatClampNeg).toInt := by rw [h_M0_11_q38775]; rfl
                have t_38796 := ia_add (M0_11_q38775 18 (2 : Int32).toNatClampNeg) (1 : Int32) (by omega) (by omega)
                have k_M0_5_q38792 : KX12 I0_l37 M0_5_q38792 := by rw [h_M0_5_q38792]; exact KX12.sm18 k_M0_11_q38775 (SR.um (KX12.ese k_M0_11_q38775) (fun q => absurd q (by decide)) (fun q => absurd q (by decide)) (fun _ => ⟨by omega, by omega⟩))
                have t_38798 := ia_add y37_2 (1 : Int32) (by omega) (by omega)
                refine wq_v (fun v6_q38797 h_v6_q38797 => ?_)
                have t_v6_q38797 := congrArg Int32.toInt h_v6_q38797
                exact ih I0_l37 L0_l37 M0_5_q38792 v6_q38797 ⟨by omega, by omega⟩ k_M0_5_q38792 (by omega)
set_option maxHeartbeats 4000000 in
theorem tt_fX12_on {N : Nat} (hN : 3000000000 ≤ N) (I0 : Nat → Int32) (L0 : Int64) (M0 : Nat → Nat → Int32) (x1 : Int32) (k_I0 : KX12 I0 M0) : wq (fX12_on N I0 L0 M0 x1) (fun r => (0 ≤ r.1.toInt ∧ r.1.toInt ≤ 50000) ∧ KX12 r.2.1 r.2.2.2 ∧ True) := by
  unfold fX12_on
  refine wq_v (fun I0_1_q38799 h_I0_1_q38799 => ?_)
  have k_I0_1_q38799 : KX12 I0_1_q38799 M0 := by rw [h_I0_1_q38799]; exact KX12.si0 k_I0
  have t_38800 := KX12.i16 k_I0
  have t_38801 : (I0_1_q38799 16).toInt = (I0 16).toInt := by rw [h_I0_1_q38799]; rfl
  have l_1 := il_1
  refine wq_b (tt_fX12_right hN I0_1_q38799 L0 M0 (I0_1_q38799 16) (1 : Int32) ⟨by omega, by omega⟩ k_I0_1_q38799) (fun r2_q38802 h_r2_q38802 => ?_)
  obtain ⟨h_r2_q38802_0, h_r2_q38802_1, h_r2_q38802_2, h_r2_q38802_3, -⟩ := h_r2_q38802
  have t_38803 := KX12.i1 h_r2_q38802_3
  have t_38804 := KX12.i1 k_I0
  have t_38805 : (I0_1_q38799 1).toInt = (I0 1).toInt := by rw [h_I0_1_q38799]; rfl
  have l_0 := il_0
  refine wq_eq (fun hc_38806 => ?_) (fun hc_38807 => ?_)
  · exact wq_s ⟨(show 0 ≤ (0 : Int32).toInt ∧ (0 : Int32).toInt ≤ 50000 from ⟨by omega, by omega⟩), h_r2_q38802_3, trivial⟩
  · have b_38808 := i32b x1
    have l_50000 := il_50000
    refine wq_b (tt_fX12_within hN x1 (0 : Int32) (50000 : Int32)) (fun r3_q38809 h_r3_q38809 => ?_)
    obtain ⟨h_r3_q38809_0, h_r3_q38809_1, -⟩ := h_r3_q38809
    have l_2 := il_2
    refine wq_b (tt_fX12_right hN r2_q38802.2.1 r2_q38802.2.2.1 r2_q38802.2.2.2 r3_q38809 (2 : Int32) ⟨by omega, by omega⟩ h_r2_q38802_3) (fun r4_q38810 h_r4_q38810 => ?_)
    obtain ⟨h_r4_q38810_0, h_r4_q38810_1, h_r4_q38810_2, h_r4_q38810_3, -⟩ := h_r4_q38810
    have t_38811 := KX12.i1 h_r4_q38810_3
    refine wq_eq (fun hc_38812 => ?_) (fun hc_38813 => ?_)
    · exact wq_s ⟨(show 0 ≤ (0 : Int32).toInt ∧ (0 : Int32).toInt ≤ 50000 from ⟨by omega, by omega⟩), h_r4_q38810_3, trivial⟩
    · exact tt_fX12_on_L37 hN x1 ⟨by omega, by omega⟩ N r4_q38810.2.1 r4_q38810.2.2.1 r4_q38810.2.2.2 (0 : Int32) ⟨by omega, by omega⟩ h_r4_q38810_3 (by omega)
set_option maxHeartbeats 4000000 in
theorem tt_fX12_held {N : Nat} (hN : 3000000000 ≤ N) (I0 : Nat → Int32) (L0 : Int64) (M0 : Nat → Nat → Int32) (x1 : Int32) (k_I0 : KX12 I0 M0) : wq (fX12_held N I0 L0 M0 x1) (fun r => KX12 r.2.1 r.2.2.2 ∧ True) := by
  unfold fX12_held
  refine wq_v (fun I0_2_q38988 h_I0_2_q38988 => ?_)
  have k_I0_2_q38988 : KX12 I0_2_q38988 M0 := by rw [h_I0_2_q38988]; exact KX12.si0 k_I0
  have t_38989 := KX12.i16 k_I0
  have t_38990 : (I0_2_q38988 16).toInt = (I0 16).toInt := by rw [h_I0_2_q38988]; rfl
  have l_0 := il_0
  refine wq_eq (fun hc_38991 => ?_) (fun hc_38992 => ?_)
  · unfold fX12_held_J26
    unfold fX12_held_J27
    have l_1 := il_1
    refine wq_b (tt_fX12_right hN I0_2_q38988 L0 M0 (0 : Int32) (1 : Int32) ⟨by omega, by omega⟩ k_I0_2_q38988) (fun r1_q38993 h_r1_q38993 => ?_)
    obtain ⟨h_r1_q38993_0, h_r1_q38993_1, h_r1_q38993_2, h_r1_q38993_3, -⟩ := h_r1_q38993
    have t_38994 := KX12.i1 h_r1_q38993_3
    have t_38995 := KX12.i1 k_I0
    have t_38996 : (I0_2_q38988 1).toInt = (I0 1).toInt := by rw [h_I0_2_q38988]; rfl
    refine wq_eq (fun hc_38997 => ?_) (fun hc_38998 => ?_)
    · exact wq_s ⟨h_r1_q38993_3, trivial⟩
    · have l_2 := il_2
      have b_38999 := i32b x1
      refine wq_in (n := 7) ⟨by omega, by omega⟩ ?_
      exact wq_s ⟨h_r1_q38993_3, trivial⟩
  · have b_39000 := i32b x1
    have l_4 := il_4
    refine wq_b (tt_fX12_within hN x1 (0 : Int32) (4 : Int32)) (fun r3_q39001 h_r3_q39001 => ?_)
    obtain ⟨h_r3_q39001_0, h_r3_q39001_1, -⟩ := h_r3_q39001
    refine wq_eq (fun hc_39002 => ?_) (fun hc_39003 => ?_)
    · unfold fX12_held_J26
      unfold fX12_held_J27
      have l_1 := il_1
      refine wq_b (tt_fX12_right hN I0_2_q38988 L0 M0 (0 : Int32) (1 : Int32) ⟨by omega, by omega⟩ k_I0_2_q38988) (fun r1_q39004 h_r1_q39004 => ?_)
      obtain ⟨h_r1_q39004_0, h_r1_q39004_1, h_r1_q39004_2, h_r1_q39004_3, -⟩ := h_r1_q39004
      have t_39005 := KX12.i1 h_r1_q39004_3
      have t_39006 := KX12.i1 k_I0
      have t_39007 : (I0_2_q38988 1).toInt = (I0 1).toInt := by rw [h_I0_2_q38988]; rfl
      refine wq_eq (fun hc_39008 => ?_) (fun hc_39009 => ?_)
      · exact wq_s ⟨h_r1_q39004_3, trivial⟩
      · have l_2 := il_2
        refine wq_in (n := 7) ⟨by omega, by omega⟩ ?_
        exact wq_s ⟨h_r1_q39004_3, trivial⟩
    · unfold fX12_held_J27
      have l_1 := il_1
      refine wq_b (tt_fX12_right hN I0_2_q38988 L0 M0 (1 : Int32) (1 : Int32) ⟨by omega, by omega⟩ k_I0_2_q38988) (fun r1_q39010 h_r1_q39010 => ?_)
      obtain ⟨h_r1_q39010_0, h_r1_q39010_1, h_r1_q39010_2, h_r1_q39010_3, -⟩ := h_r1_q39010
      have t_39011 := KX12.i1 h_r1_q39010_3
      have t_39012 := KX12.i1 k_I0
      have t_39013 : (I0_2_q38988 1).toInt = (I0 1).toInt := by rw [h_I0_2_q38988]; rfl
      refine wq_eq (fun hc_39014 => ?_) (fun hc_39015 => ?_)
      · exact wq_s ⟨h_r1_q39010_3, trivial⟩
      · have l_2 := il_2
        have t_39016 := ia_add (2 : Int32) x1 (by omega) (by omega)
        refine wq_in (n := 7) ⟨by omega, by omega⟩ ?_
        exact wq_s ⟨h_r1_q39010_3, trivial⟩
theorem tt_fX12_image {N : Nat} (hN : 3000000000 ≤ N) (I0 : Nat → Int32) (L0 : Int64) (M0 : Nat → Nat → Int32) (k_I0 : KX12 I0 M0) : wq (fX12_image N I0 L0 M0) (fun r => KX12 r.2.1 r.2.2.2 ∧ True) := by
  unfold fX12_image
  refine wq_v (fun I1 e1 => ?_)
  have k1 : KX12 I1 M0 := by rw [e1]; exact KX12.si0 k_I0
  refine wq_eq (fun hc => wq_s ⟨k1, trivial⟩) (fun hc => ?_)
  refine wq_v (fun I2 e2 => ?_)
  have k2 : KX12 I2 M0 := by rw [e2]; exact KX12.si17 k1 ⟨by decide, by decide⟩
  rw [tt_copies hN 7 (M0 18) 7 (M0 19) (by omega) (by decide), Option.bind_some]
  refine wq_v (fun M4 e4 => ?_)
  rw [e4]
  exact wq_s ⟨KX12.sf19 k2 ⟨k_I0.ese.1, k_I0.ese.2.1, k_I0.ese.2.2⟩, trivial⟩
theorem tt_fX12_restore {N : Nat} (hN : 3000000000 ≤ N) (I0 : Nat → Int32) (L0 : Int64) (M0 : Nat → Nat → Int32) (k_I0 : KX12 I0 M0) : wq (fX12_restore N I0 L0 M0) (fun r => KX12 r.2.1 r.2.2.2 ∧ True) := by
  unfold fX12_restore
  refine wq_v (fun I1 e1 => ?_)
  have k1 : KX12 I1 M0 := by rw [e1]; exact KX12.si0 k_I0
  refine wq_eq (fun hc => wq_s ⟨k1, trivial⟩) (fun hc => ?_)
  refine wq_v (fun I2 e2 => ?_)
  have k2 : KX12 I2 M0 := by rw [e2]; exact KX12.si16 k1 ⟨by decide, by decide⟩
  rw [tt_copies hN 7 (M0 19) 7 (M0 18) (by omega) (by decide), Option.bind_some]
  refine wq_v (fun M4 e4 => ?_)
  rw [e4]
  exact wq_s ⟨KX12.sf18 k2 ⟨k_I0.esi.1, k_I0.esi.2.1, k_I0.esi.2.2⟩, trivial⟩

set_option maxHeartbeats 4000000 in
theorem tt_fX12_seek {N : Nat} (hN : 3000000000 ≤ N) (I0 : Nat → Int32) (L0 : Int64) (M0 : Nat → Nat → Int32) (x1 : Int32) (x2 : Int32) (x3 : Int32) (x4 : Int32) (k_I0 : KX12 I0 M0) : wq (fX12_seek N I0 L0 M0 x1 x2 x3 x4) (fun r => KX12 r.1 r.2.2 ∧ True) := by
  unfold fX12_seek
  have b_36343 := i32b x1
  have b_36344 := i32b x2
  refine wq_b (tt_fX12_isWheel hN I0 L0 M0 x1 x2 k_I0) (fun r10_q36345 h_r10_q36345 => ?_)
  obtain ⟨h_r10_q36345_0, h_r10_q36345_1, h_r10_q36345_2, h_r10_q36345_3, -⟩ := h_r10_q36345
  have t_36346 := KX12.i1 h_r10_q36345_3
  have t_36347 := KX12.i1 k_I0
  have l_0 := il_0
  refine wq_eq (fun hc_36348 => ?_) (fun hc_36349 => ?_)
  · exact wq_s ⟨h_r10_q36345_3, trivial⟩
  · have b_36350 := i32b x3
    have l_3 := il_3
    refine wq_b (tt_fX12_within hN x3 (0 : Int32) (3 : Int32)) (fun r11_q36351 h_r11_q36351 => ?_)
    obtain ⟨h_r11_q36351_0, h_r11_q36351_1, -⟩ := h_r11_q36351
    refine wq_eq (fun hc_36352 => ?_) (fun hc_36353 => ?_)
    · unfold fX12_seek_J34
      unfold fX12_seek_J35
      have l_1 := il_1
      refine wq_b (tt_fX12_right hN r10_q36345.2.1 r10_q36345.2.2.1 r10_q36345.2.2.2 (0 : Int32) (1 : Int32) ⟨by omega, by omega⟩ h_r10_q36345_3) (fun r1_q36354 h_r1_q36354 => ?_)
      obtain ⟨h_r1_q36354_0, h_r1_q36354_1, h_r1_q36354_2, h_r1_q36354_3, -⟩ := h_r1_q36354
      have t_36355 := KX12.i1 h_r1_q36354_3
      refine wq_eq (fun hc_36356 => ?_) (fun hc_36357 => ?_)
      · exact wq_s ⟨h_r1_q36354_3, trivial⟩
      · refine wq_v (fun I0_2_q36358 h_I0_2_q36358 => ?_)
        have k_I0_2_q36358 : KX12 I0_2_q36358 r1_q36354.2.2.2 := by rw [h_I0_2_q36358]; exact KX12.si16 h_r1_q36354_3 ⟨by omega, by omega⟩
        refine wq_in (n := 7) ⟨by omega, by omega⟩ ?_
        refine wq_v (fun M0_3_q36359 h_M0_3_q36359 => ?_)
        have l_20 := il_20
        have t_36360 := ia_mul (20 : Int32) (20) il_20 x1 (by omega) (by omega)
        have t_36361 := ia_add ((20 : Int32) * x1) x2 (by omega) (by omega)
        have k_M0_3_q36359 : KX12 I0_2_q36358 M0_3_q36359 := by rw [h_M0_3_q36359]; exact KX12.sm18 k_I0_2_q36358 (SR.um (KX12.ese k_I0_2_q36358) (fun _ => ⟨by omega, by omega⟩) (fun q => absurd q (by decide)) (fun q => absurd q (by decide)))
        refine wq_in (n := 7) ⟨by omega, by omega⟩ ?_
        refine wq_v (fun M0_4_q36362 h_M0_4_q36362 => ?_)
        have k_M0_4_q36362 : KX12 I0_2_q36358 M0_4_q36362 := by rw [h_M0_4_q36362]; exact KX12.sm18 k_M0_3_q36359 (SR.um (KX12.ese k_M0_3_q36359) (fun q => absurd q (by decide)) (fun _ => ⟨by omega, by omega⟩) (fun q => absurd q (by decide)))
        have l_2 := il_2
        refine wq_in (n := 7) ⟨by omega, by omega⟩ ?_
        refine wq_v (fun M0_5_q36363 h_M0_5_q36363 => ?_)
        have b_36364 := i32b x4
        have k_M0_5_q36363 : KX12 I0_2_q36358 M0_5_q36363 := by rw [h_M0_5_q36363]; exact KX12.sm18 k_M0_4_q36362 (SR.um (KX12.ese k_M0_4_q36362) (fun q => absurd q (by decide)) (fun q => absurd q (by decide)) (fun _ => ⟨by omega, by omega⟩))
        refine wq_in (n := 7) ⟨by omega, by omega⟩ ?_
        refine wq_v (fun M0_6_q36365 h_M0_6_q36365 => ?_)
        have k_M0_6_q36365 : KX12 I0_2_q36358 M0_6_q36365 := by rw [h_M0_6_q36365]; exact KX12.sm18 k_M0_5_q36363 (SR.um (KX12.ese k_M0_5_q36363) (fun q => absurd q (by decide)) (fun q => absurd q (by decide)) (fun q => absurd q (by decide)))
        have l_4 := il_4
        refine wq_in (n := 7) ⟨by omega, by omega⟩ ?_
        refine wq_v (fun M0_7_q36366 h_M0_7_q36366 => ?_)
        have k_M0_7_q36366 : KX12 I0_2_q36358 M0_7_q36366 := by rw [h_M0_7_q36366]; exact KX12.sm18 k_M0_6_q36365 (SR.um (KX12.ese k_M0_6_q36365) (fun q => absurd q (by decide)) (fun q => absurd q (by decide)) (fun q => absurd q (by decide)))
        have l_5 := il_5
        refine wq_in (n := 7) ⟨by omega, by omega⟩ ?_
        refine wq_v (fun M0_8_q36367 h_M0_8_q36367 => ?_)
        have k_M0_8_q36367 : KX12 I0_2_q36358 M0_8_q36367 := by rw [h_M0_8_q36367]; exact KX12.sm18 k_M0_7_q36366 (SR.um (KX12.ese k_M0_7_q36366) (fun q => absurd q (by decide)) (fun q => absurd q (by decide)) (fun q => absurd q (by decide)))
        have l_6 := il_6
        refine wq_in (n := 7) ⟨by omega, by omega⟩ ?_
        refine wq_v (fun M0_9_q36368 h_M0_9_q36368 => ?_)
        have k_M0_9_q36368 : KX12 I0_2_q36358 M0_9_q36368 := by rw [h_M0_9_q36368]; exact KX12.sm18 k_M0_8_q36367 (SR.um (KX12.ese k_M0_8_q36367) (fun q => absurd q (by decide)) (fun q => absurd q (by decide)) (fun q => absurd q (by decide)))
        exact wq_s ⟨k_M0_9_q36368, trivial⟩
    · have b_36369 := i32b x4
      have l_1000000 := il_1000000
      refine wq_b (tt_fX12_within hN x4 (0 : Int32) (1000000 : Int32)) (fun r12_q36370 h_r12_q36370 => ?_)
      obtain ⟨h_r12_q36370_0, h_r12_q36370_1, -⟩ := h_r12_q36370
      refine wq_eq (fun hc_36371 => ?_) (fun hc_36372 => ?_)
      · unfold fX12_seek_J34
        unfold fX12_seek_J35
        have l_1 := il_1
        refine wq_b (tt_fX12_right hN r10_q36345.2.1 r10_q36345.2.2.1 r10_q36345.2.2.2 (0 : Int32) (1 : Int32) ⟨by omega, by omega⟩ h_r10_q36345_3) (fun r1_q36373 h_r1_q36373 => ?_)
        obtain ⟨h_r1_q36373_0, h_r1_q36373_1, h_r1_q36373_2, h_r1_q36373_3, -⟩ := h_r1_q36373
        have t_36374 := KX12.i1 h_r1_q36373_3
        refine wq_eq (fun hc_36375 => ?_) (fun hc_36376 => ?_)
        · exact wq_s ⟨h_r1_q36373_3, trivial⟩
        · refine wq_v (fun I0_2_q36377 h_I0_2_q36377 => ?_)
          have k_I0_2_q36377 : KX12 I0_2_q36377 r1_q36373.2.2.2 := by rw [h_I0_2_q36377]; exact KX12.si16 h_r1_q36373_3 ⟨by omega, by omega⟩
          refine wq_in (n := 7) ⟨by omega, by omega⟩ ?_
          refine wq_v (fun M0_3_q36378 h_M0_3_q36378 => ?_)
          have l_20 := il_20
          have t_36379 := ia_mul (20 : Int32) (20) il_20 x1 (by omega) (by omega)
          have t_36380 := ia_add ((20 : Int32) * x1) x2 (by omega) (by omega)
          have k_M0_3_q36378 : KX12 I0_2_q36377 M0_3_q36378 := by rw [h_M0_3_q36378]; exact KX12.sm18 k_I0_2_q36377 (SR.um (KX12.ese k_I0_2_q36377) (fun _ => ⟨by omega, by omega⟩) (fun q => absurd q (by decide)) (fun q => absurd q (by decide)))
          refine wq_in (n := 7) ⟨by omega, by omega⟩ ?_
          refine wq_v (fun M0_4_q36381 h_M0_4_q36381 => ?_)
          have k_M0_4_q36381 : KX12 I0_2_q36377 M0_4_q36381 := by rw [h_M0_4_q36381]; exact KX12.sm18 k_M0_3_q36378 (SR.um (KX12.ese k_M0_3_q36378) (fun q => absurd q (by decide)) (fun _ => ⟨by omega, by omega⟩) (fun q => absurd q (by decide)))
          have l_2 := il_2
          refine wq_in (n := 7) ⟨by omega, by omega⟩ ?_
          refine wq_v (fun M0_5_q36382 h_M0_5_q36382 => ?_)
          have k_M0_5_q36382 : KX12 I0_2_q36377 M0_5_q36382 := by rw [h_M0_5_q36382]; exact KX12.sm18 k_M0_4_q36381 (SR.um (KX12.ese k_M0_4_q36381) (fun q => absurd q (by decide)) (fun q => absurd q (by decide)) (fun _ => ⟨by omega, by omega⟩))
          refine wq_in (n := 7) ⟨by omega, by omega⟩ ?_
          refine wq_v (fun M0_6_q36383 h_M0_6_q36383 => ?_)
          have k_M0_6_q36383 : KX12 I0_2_q36377 M0_6_q36383 := by rw [h_M0_6_q36383]; exact KX12.sm18 k_M0_5_q36382 (SR.um (KX12.ese k_M0_5_q36382) (fun q => absurd q (by decide)) (fun q => absurd q (by decide)) (fun q => absurd q (by decide)))
          have l_4 := il_4
          refine wq_in (n := 7) ⟨by omega, by omega⟩ ?_
          refine wq_v (fun M0_7_q36384 h_M0_7_q36384 => ?_)
          have k_M0_7_q36384 : KX12 I0_2_q36377 M0_7_q36384 := by rw [h_M0_7_q36384]; exact KX12.sm18 k_M0_6_q36383 (SR.um (KX12.ese k_M0_6_q36383) (fun q => absurd q (by decide)) (fun q => absurd q (by decide)) (fun q => absurd q (by decide)))
          have l_5 := il_5
          refine wq_in (n := 7) ⟨by omega, by omega⟩ ?_
          refine wq_v (fun M0_8_q36385 h_M0_8_q36385 => ?_)
          have k_M0_8_q36385 : KX12 I0_2_q36377 M0_8_q36385 := by rw [h_M0_8_q36385]; exact KX12.sm18 k_M0_7_q36384 (SR.um (KX12.ese k_M0_7_q36384) (fun q => absurd q (by decide)) (fun q => absurd q (by decide)) (fun q => absurd q (by decide)))
          have l_6 := il_6
          refine wq_in (n := 7) ⟨by omega, by omega⟩ ?_
          refine wq_v (fun M0_9_q36386 h_M0_9_q36386 => ?_)
          have k_M0_9_q36386 : KX12 I0_2_q36377 M0_9_q36386 := by rw [h_M0_9_q36386]; exact KX12.sm18 k_M0_8_q36385 (SR.um (KX12.ese k_M0_8_q36385) (fun q => absurd q (by decide)) (fun q => absurd q (by decide)) (fun q => absurd q (by decide)))
          exact wq_s ⟨k_M0_9_q36386, trivial⟩
      · unfold fX12_seek_J35
        have l_1 := il_1
        refine wq_b (tt_fX12_right hN r10_q36345.2.1 r10_q36345.2.2.1 r10_q36345.2.2.2 (1 : Int32) (1 : Int32) ⟨by omega, by omega⟩ h_r10_q36345_3) (fun r1_q36387 h_r1_q36387 => ?_)
        obtain ⟨h_r1_q36387_0, h_r1_q36387_1, h_r1_q36387_2, h_r1_q36387_3, -⟩ := h_r1_q36387
        have t_36388 := KX12.i1 h_r1_q36387_3
        refine wq_eq (fun hc_36389 => ?_) (fun hc_36390 => ?_)
        · exact wq_s ⟨h_r1_q36387_3, trivial⟩
        · refine wq_v (fun I0_2_q36391 h_I0_2_q36391 => ?_)
          have k_I0_2_q36391 : KX12 I0_2_q36391 r1_q36387.2.2.2 := by rw [h_I0_2_q36391]; exact KX12.si16 h_r1_q36387_3 ⟨by omega, by omega⟩
          refine wq_in (n := 7) ⟨by omega, by omega⟩ ?_
          refine wq_v (fun M0_3_q36392 h_M0_3_q36392 => ?_)
          have l_20 := il_20
          have t_36393 := ia_mul (20 : Int32) (20) il_20 x1 (by omega) (by omega)
          have t_36394 := ia_add ((20 : Int32) * x1) x2 (by omega) (by omega)
          have k_M0_3_q36392 : KX12 I0_2_q36391 M0_3_q36392 := by rw [h_M0_3_q36392]; exact KX12.sm18 k_I0_2_q36391 (SR.um (KX12.ese k_I0_2_q36391) (fun _ => ⟨by omega, by omega⟩) (fun q => absurd q (by decide)) (fun q => absurd q (by decide)))
          refine wq_in (n := 7) ⟨by omega, by omega⟩ ?_
          refine wq_v (fun M0_4_q36395 h_M0_4_q36395 => ?_)
          have k_M0_4_q36395 : KX12 I0_2_q36391 M0_4_q36395 := by rw [h_M0_4_q36395]; exact KX12.sm18 k_M0_3_q36392 (SR.um (KX12.ese k_M0_3_q36392) (fun q => absurd q (by decide)) (fun _ => ⟨by omega, by omega⟩) (fun q => absurd q (by decide)))
          have l_2 := il_2
          refine wq_in (n := 7) ⟨by omega, by omega⟩ ?_
          refine wq_v (fun M0_5_q36396 h_M0_5_q36396 => ?_)
          have k_M0_5_q36396 : KX12 I0_2_q36391 M0_5_q36396 := by rw [h_M0_5_q36396]; exact KX12.sm18 k_M0_4_q36395 (SR.um (KX12.ese k_M0_4_q36395) (fun q => absurd q (by decide)) (fun q => absurd q (by decide)) (fun _ => ⟨by omega, by omega⟩))
          refine wq_in (n := 7) ⟨by omega, by omega⟩ ?_
          refine wq_v (fun M0_6_q36397 h_M0_6_q36397 => ?_)
          have k_M0_6_q36397 : KX12 I0_2_q36391 M0_6_q36397 := by rw [h_M0_6_q36397]; exact KX12.sm18 k_M0_5_q36396 (SR.um (KX12.ese k_M0_5_q36396) (fun q => absurd q (by decide)) (fun q => absurd q (by decide)) (fun q => absurd q (by decide)))
          have l_4 := il_4
          refine wq_in (n := 7) ⟨by omega, by omega⟩ ?_
          refine wq_v (fun M0_7_q36398 h_M0_7_q36398 => ?_)
          have k_M0_7_q36398 : KX12 I0_2_q36391 M0_7_q36398 := by rw [h_M0_7_q36398]; exact KX12.sm18 k_M0_6_q36397 (SR.um (KX12.ese k_M0_6_q36397) (fun q => absurd q (by decide)) (fun q => absurd q (by decide)) (fun q => absurd q (by decide)))
          have l_5 := il_5
          refine wq_in (n := 7) ⟨by omega, by omega⟩ ?_
          refine wq_v (fun M0_8_q36399 h_M0_8_q36399 => ?_)
          have k_M0_8_q36399 : KX12 I0_2_q36391 M0_8_q36399 := by rw [h_M0_8_q36399]; exact KX12.sm18 k_M0_7_q36398 (SR.um (KX12.ese k_M0_7_q36398) (fun q => absurd q (by decide)) (fun q => absurd q (by decide)) (fun q => absurd q (by decide)))
          have l_6 := il_6
          refine wq_in (n := 7) ⟨by omega, by omega⟩ ?_
          refine wq_v (fun M0_9_q36400 h_M0_9_q36400 => ?_)
          have k_M0_9_q36400 : KX12 I0_2_q36391 M0_9_q36400 := by rw [h_M0_9_q36400]; exact KX12.sm18 k_M0_8_q36399 (SR.um (KX12.ese k_M0_8_q36399) (fun q => absurd q (by decide)) (fun q => absurd q (by decide)) (fun q => absurd q (by decide)))
          exact wq_s ⟨k_M0_9_q36400, trivial⟩
set_option maxHeartbeats 4000000 in
theorem tt_fX12_on_L37 {N : Nat} (hN : 3000000000 ≤ N) (x1 : Int32) (h_x1 : 0 ≤ x1.toInt ∧ x1.toInt ≤ 50000)  : ∀ (fu : Nat) (I0_l37 : (Nat → Int32)) (L0_l37 : Int64) (M0_l37 : (Nat → Nat → Int32)) (y37_2 : Int32), (0 ≤ y37_2.toInt ∧ y37_2.toInt ≤ 50000) → (KX12 I0_l37 M0_l37) → (50000 - y37_2.toInt) < (fu : Int) → wq (fX12_on_L37 N x1 fu I0_l37 L0_l37 M0_l37 y37_2) (fun r => (0 ≤ r.1.toInt ∧ r.1.toInt ≤ 50000) ∧ KX12 r.2.1 r.2.2.2 ∧ True) := by
  intro fu
  induction fu with
  | zero => intro I0_l37 L0_l37 M0_l37 y37_2 h_y37_2 k_I0_l37 hm; exfalso; omega
  | succ fu ih =>
    intro I0_l37 L0_l37 M0_l37 y37_2 h_y37_2 k_I0_l37 hm
    rw [fX12_on_L37.eq_2]
    refine wq_le (fun hc_38687 => ?_) (fun hc_38688 => ?_)
    · exact wq_s ⟨(show 0 ≤ y37_2.toInt ∧ y37_2.toInt ≤ 50000 from ⟨by omega, by omega⟩), k_I0_l37, trivial⟩
    · have l_2 := il_2
      refine wq_in (n := 7) ⟨by omega, by omega⟩ ?_
      have l_1000000 := il_1000000
      have t_38689 : 0 ≤ (M0_l37 18 (2 : Int32).toNatClampNeg).toInt ∧ (M0_l37 18 (2 : Int32).toNatClampNeg).toInt ≤ 1000001 := (KX12.ese k_I0_l37).2.2
      refine wq_lt (fun hc_38690 => ?_) (fun hc_38691 => ?_)
      · exact wq_s ⟨(show 0 ≤ y37_2.toInt ∧ y37_2.toInt ≤ 50000 from ⟨by omega, by omega⟩), k_I0_l37, trivial⟩
      · refine wq_in (n := 7) ⟨by omega, by omega⟩ ?_
        refine wq_v (fun v13_q38692 h_v13_q38692 => ?_)
        have t_v13_q38692 := congrArg Int32.toInt h_v13_q38692
        have l_0 := il_0
        refine wq_in (n := 7) ⟨by omega, by omega⟩ ?_
        have l_1 := il_1
        refine wq_in (n := 7) ⟨by omega, by omega⟩ ?_
        have l_3 := il_3
        refine wq_in (n := 7) ⟨by omega, by omega⟩ ?_
        have l_m1 := il_m1
        refine wq_eq (fun hc_38693 => ?_) (fun hc_38694 => ?_)
        · unfold fX12_on_J96
          have t_38695 : 0 ≤ (M0_l37 18 (0 : Int32).toNatClampNeg).toInt ∧ (M0_l37 18 (0 : Int32).toNatClampNeg).toInt ≤ 119 := (KX12.ese k_I0_l37).1
          have t_38696 : 0 ≤ (M0_l37 18 (1 : Int32).toNatClampNeg).toInt ∧ (M0_l37 18 (1 : Int32).toNatClampNeg).toInt ≤ 3 := (KX12.ese k_I0_l37).2.1
          have l_999 := il_999
          refine wq_b (tt_fX12_costOn hN I0_l37 L0_l37 M0_l37 (M0_l37 18 (0 : Int32).toNatClampNeg) (M0_l37 18 (1 : Int32).toNatClampNeg) v13_q38692 (999 : Int32) ⟨by omega, by omega⟩ ⟨by omega, by omega⟩ k_I0_l37) (fun r12_q38697 h_r12_q38697 => ?_)
          obtain ⟨h_r12_q38697_0, -⟩ := h_r12_q38697
          refine wq_in (n := 7) ⟨by omega, by omega⟩ ?_
          refine wq_eq (fun hc_38698 => ?_) (fun hc_38699 => ?_)
          · unfold fX12_on_J122
            refine wq_in (n := 7) ⟨by omega, by omega⟩ ?_
            refine wq_v (fun M0_9_q38700 h_M0_9_q38700 => ?_)
            have k_M0_9_q38700 : KX12 I0_l37 M0_9_q38700 := by rw [h_M0_9_q38700]; exact KX12.sm18 k_I0_l37 (SR.um (KX12.ese k_I0_l37) (fun q => absurd q (by decide)) (fun q => absurd q (by decide)) (fun q => absurd q (by decide)))
            have l_4 := il_4
            refine wq_in (n := 7) ⟨by omega, by omega⟩ ?_
            refine wq_v (fun M0_10_q38701 h_M0_10_q38701 => ?_)
            have k_M0_10_q38701 : KX12 I0_l37 M0_10_q38701 := by rw [h_M0_10_q38701]; exact KX12.sm18 k_M0_9_q38700 (SR.um (KX12.ese k_M0_9_q38700) (fun q => absurd q (by decide)) (fun q => absurd q (by decide)) (fun q => absurd q (by decide)))
            have l_5 := il_5
            refine wq_in (n := 7) ⟨by omega, by omega⟩ ?_
            refine wq_v (fun M0_11_q38702 h_M0_11_q38702 => ?_)
            have k_M0_11_q38702 : KX12 I0_l37 M0_11_q38702 := by rw [h_M0_11_q38702]; exact KX12.sm18 k_M0_10_q38701 (SR.um (KX12.ese k_M0_10_q38701) (fun q => absurd q (by decide)) (fun q => absurd q (by decide)) (fun q => absurd q (by decide)))
            unfold fX12_on_J144
            refine wq_in (n := 7) ⟨by omega, by omega⟩ ?_
            have t_38703 : (M0_9_q38700 18 (3 : Int32).toNatClampNeg).toInt = r12_q38697.toInt := by rw [h_M0_9_q38700]; rfl
            have t_38704 : (M0_10_q38701 18 (3 : Int32).toNatClampNeg).toInt = (M0_9_q38700 18 (3 : Int32).toNatClampNeg).toInt := by rw [h_M0_10_q38701]; rfl
            have t_38705 : (M0_11_q38702 18 (3 : Int32).toNatClampNeg).toInt = (M0_10_q38701 18 (3 : Int32).toNatClampNeg).toInt := by rw [h_M0_11_q38702]; rfl
            refine wq_eq (fun hc_38706 => ?_) (fun hc_38707 => ?_)
            · refine wq_in (n := 7) ⟨by omega, by omega⟩ ?_
              refine wq_in (n := 7) ⟨by omega, by omega⟩ ?_
              refine wq_v (fun M0_7_q38708 h_M0_7_q38708 => ?_)
              have k_M0_7_q38708 : KX12 I0_l37 M0_7_q38708 := by rw [h_M0_7_q38708]; exact KX12.sm18 k_M0_11_q38702 (SR.um (KX12.ese k_M0_11_q38702) (fun q => absurd q (by decide)) (fun q => absurd q (by decide)) (fun q => absurd q (by decide)))
              have l_6 := il_6
              refine wq_in (n := 7) ⟨by omega, by omega⟩ ?_
              refine wq_v (fun M0_8_q38709 h_M0_8_q38709 => ?_)
              have k_M0_8_q38709 : KX12 I0_l37 M0_8_q38709 := by rw [h_M0_8_q38709]; exact KX12.sm18 k_M0_7_q38708 (SR.um (KX12.ese k_M0_7_q38708) (fun q => absurd q (by decide)) (fun q => absurd q (by decide)) (fun q => absurd q (by decide)))
              unfold fX12_on_J173
              refine wq_in (n := 7) ⟨by omega, by omega⟩ ?_
              refine wq_in (n := 7) ⟨by omega, by omega⟩ ?_
              refine wq_v (fun M0_5_q38710 h_M0_5_q38710 => ?_)
              have t_38711 : (M0_9_q38700 18 (2 : Int32).toNatClampNeg).toInt = (M0_l37 18 (2 : Int32).toNatClampNeg).toInt := by rw [h_M0_9_q38700]; rfl
              have t_38712 : (M0_10_q38701 18 (2 : Int32).toNatClampNeg).toInt = (M0_9_q38700 18 (2 : Int32).toNatClampNeg).toInt := by rw [h_M0_10_q38701]; rfl
              have t_38713 : (M0_11_q38702 18 (2 : Int32).toNatClampNeg).toInt = (M0_10_q38701 18 (2 : Int32).toNatClampNeg).toInt := by rw [h_M0_11_q38702]; rfl
              have t_38714 : (M0_7_q38708 18 (2 : Int32).toNatClampNeg).toInt = (M0_11_q38702 18 (2 : Int32).toNatClampNeg).toInt := by rw [h_M0_7_q38708]; rfl
              have t_38715 : (M0_8_q38709 18 (2 : Int32).toNatClampNeg).toInt = (M0_7_q38708 18 (2 : Int32).toNatClampNeg).toInt := by rw [h_M0_8_q38709]; rfl
              have t_38716 := ia_add (M0_8_q38709 18 (2 : Int32).toNatClampNeg) (1 : Int32) (by omega) (by omega)
              have k_M0_5_q38710 : KX12 I0_l37 M0_5_q38710 := by rw [h_M0_5_q38710]; exact KX12.sm18 k_M0_8_q38709 (SR.um (KX12.ese k_M0_8_q38709) (fun q => absurd q (by decide)) (fun q => absurd q (by decide)) (fun _ => ⟨by omega, by omega⟩))
              have t_38718 := ia_add y37_2 (1 : Int32) (by omega) (by omega)
              refine wq_v (fun v6_q38717 h_v6_q38717 => ?_)
              have t_v6_q38717 := congrArg Int32.toInt h_v6_q38717
              exact ih I0_l37 L0_l37 M0_5_q38710 v6_q38717 ⟨by omega, by omega⟩ k_M0_5_q38710 (by omega)
            · unfold fX12_on_J173
              refine wq_in (n := 7) ⟨by omega, by omega⟩ ?_
              refine wq_in (n := 7) ⟨by omega, by omega⟩ ?_
              refine wq_v (fun M0_5_q38719 h_M0_5_q38719 => ?_)
              have t_38720 : (M0_9_q38700 18 (2 : Int32).toNatClampNeg).toInt = (M0_l37 18 (2 : Int32).toNatClampNeg).toInt := by rw [h_M0_9_q38700]; rfl
              have t_38721 : (M0_10_q38701 18 (2 : Int32).toNatClampNeg).toInt = (M0_9_q38700 18 (2 : Int32).toNatClampNeg).toInt := by rw [h_M0_10_q38701]; rfl
              have t_38722 : (M0_11_q38702 18 (2 : Int32).toNatClampNeg).toInt = (M0_10_q38701 18 (2 : Int32).toNatClampNeg).toInt := by rw [h_M0_11_q38702]; rfl
              have t_38723 := ia_add (M0_11_q38702 18 (2 : Int32).toNatClampNeg) (1 : Int32) (by omega) (by omega)
              have k_M0_5_q38719 : KX12 I0_l37 M0_5_q38719 := by rw [h_M0_5_q38719]; exact KX12.sm18 k_M0_11_q38702 (SR.um (KX12.ese k_M0_11_q38702) (fun q => absurd q (by decide)) (fun q => absurd q (by decide)) (fun _ => ⟨by omega, by omega⟩))
              have t_38725 := ia_add y37_2 (1 : Int32) (by omega) (by omega)
              refine wq_v (fun v6_q38724 h_v6_q38724 => ?_)
              have t_v6_q38724 := congrArg Int32.toInt h_v6_q38724
              exact ih I0_l37 L0_l37 M0_5_q38719 v6_q38724 ⟨by omega, by omega⟩ k_M0_5_q38719 (by omega)
          · exfalso; omega
        · refine wq_in (n := 7) ⟨by omega, by omega⟩ ?_
          unfold fX12_on_J96
          have t_38726 : 0 ≤ (M0_l37 18 (0 : Int32).toNatClampNeg).toInt ∧ (M0_l37 18 (0 : Int32).toNatClampNeg).toInt ≤ 119 := (KX12.ese k_I0_l37).1
          have t_38727 : 0 ≤ (M0_l37 18 (1 : Int32).toNatClampNeg).toInt ∧ (M0_l37 18 (1 : Int32).toNatClampNeg).toInt ≤ 3 := (KX12.ese k_I0_l37).2.1
          refine wq_b (tt_fX12_costOn hN I0_l37 L0_l37 M0_l37 (M0_l37 18 (0 : Int32).toNatClampNeg) (M0_l37 18 (1 : Int32).toNatClampNeg) v13_q38692 (M0_l37 18 (3 : Int32).toNatClampNeg) ⟨by omega, by omega⟩ ⟨by omega, by omega⟩ k_I0_l37) (fun r12_q38728 h_r12_q38728 => ?_)
          obtain ⟨h_r12_q38728_0, -⟩ := h_r12_q38728
          refine wq_in (n := 7) ⟨by omega, by omega⟩ ?_
          refine wq_eq (fun hc_38729 => ?_) (fun hc_38730 => ?_)
          · unfold fX12_on_J122
            refine wq_in (n := 7) ⟨by omega, by omega⟩ ?_
            refine wq_v (fun M0_9_q38731 h_M0_9_q38731 => ?_)
            have k_M0_9_q38731 : KX12 I0_l37 M0_9_q38731 := by rw [h_M0_9_q38731]; exact KX12.sm18 k_I0_l37 (SR.um (KX12.ese k_I0_l37) (fun q => absurd q (by decide)) (fun q => absurd q (by decide)) (fun q => absurd q (by decide)))
            have l_4 := il_4
            refine wq_in (n := 7) ⟨by omega, by omega⟩ ?_
            refine wq_v (fun M0_10_q38732 h_M0_10_q38732 => ?_)
            have k_M0_10_q38732 : KX12 I0_l37 M0_10_q38732 := by rw [h_M0_10_q38732]; exact KX12.sm18 k_M0_9_q38731 (SR.um (KX12.ese k_M0_9_q38731) (fun q => absurd q (by decide)) (fun q => absurd q (by decide)) (fun q => absurd q (by decide)))
            have l_5 := il_5
            refine wq_in (n := 7) ⟨by omega, by omega⟩ ?_
            refine wq_v (fun M0_11_q38733 h_M0_11_q38733 => ?_)
            have k_M0_11_q38733 : KX12 I0_l37 M0_11_q38733 := by rw [h_M0_11_q38733]; exact KX12.sm18 k_M0_10_q38732 (SR.um (KX12.ese k_M0_10_q38732) (fun q => absurd q (by decide)) (fun q => absurd q (by decide)) (fun q => absurd q (by decide)))
            unfold fX12_on_J144
            refine wq_in (n := 7) ⟨by omega, by omega⟩ ?_
            have t_38734 : (M0_9_q38731 18 (3 : Int32).toNatClampNeg).toInt = r12_q38728.toInt := by rw [h_M0_9_q38731]; rfl
            have t_38735 : (M0_10_q38732 18 (3 : Int32).toNatClampNeg).toInt = (M0_9_q38731 18 (3 : Int32).toNatClampNeg).toInt := by rw [h_M0_10_q38732]; rfl
            have t_38736 : (M0_11_q38733 18 (3 : Int32).toNatClampNeg).toInt = (M0_10_q38732 18 (3 : Int32).toNatClampNeg).toInt := by rw [h_M0_11_q38733]; rfl
            refine wq_eq (fun hc_38737 => ?_) (fun hc_38738 => ?_)
            · refine wq_in (n := 7) ⟨by omega, by omega⟩ ?_
              refine wq_in (n := 7) ⟨by omega, by omega⟩ ?_
              refine wq_v (fun M0_7_q38739 h_M0_7_q38739 => ?_)
              have k_M0_7_q38739 : KX12 I0_l37 M0_7_q38739 := by rw [h_M0_7_q38739]; exact KX12.sm18 k_M0_11_q38733 (SR.um (KX12.ese k_M0_11_q38733) (fun q => absurd q (by decide)) (fun q => absurd q (by decide)) (fun q => absurd q (by decide)))
              have l_6 := il_6
              refine wq_in (n := 7) ⟨by omega, by omega⟩ ?_
              refine wq_v (fun M0_8_q38740 h_M0_8_q38740 => ?_)
              have k_M0_8_q38740 : KX12 I0_l37 M0_8_q38740 := by rw [h_M0_8_q38740]; exact KX12.sm18 k_M0_7_q38739 (SR.um (KX12.ese k_M0_7_q38739) (fun q => absurd q (by decide)) (fun q => absurd q (by decide)) (fun q => absurd q (by decide)))
              unfold fX12_on_J173
              refine wq_in (n := 7) ⟨by omega, by omega⟩ ?_
              refine wq_in (n := 7) ⟨by omega, by omega⟩ ?_
              refine wq_v (fun M0_5_q38741 h_M0_5_q38741 => ?_)
              have t_38742 : (M0_9_q38731 18 (2 : Int32).toNatClampNeg).toInt = (M0_l37 18 (2 : Int32).toNatClampNeg).toInt := by rw [h_M0_9_q38731]; rfl
              have t_38743 : (M0_10_q38732 18 (2 : Int32).toNatClampNeg).toInt = (M0_9_q38731 18 (2 : Int32).toNatClampNeg).toInt := by rw [h_M0_10_q38732]; rfl
              have t_38744 : (M0_11_q38733 18 (2 : Int32).toNatClampNeg).toInt = (M0_10_q38732 18 (2 : Int32).toNatClampNeg).toInt := by rw [h_M0_11_q38733]; rfl
              have t_38745 : (M0_7_q38739 18 (2 : Int32).toNatClampNeg).toInt = (M0_11_q38733 18 (2 : Int32).toNatClampNeg).toInt := by rw [h_M0_7_q38739]; rfl
              have t_38746 : (M0_8_q38740 18 (2 : Int32).toNatClampNeg).toInt = (M0_7_q38739 18 (2 : Int32).toNatClampNeg).toInt := by rw [h_M0_8_q38740]; rfl
              have t_38747 := ia_add (M0_8_q38740 18 (2 : Int32).toNatClampNeg) (1 : Int32) (by omega) (by omega)
              have k_M0_5_q38741 : KX12 I0_l37 M0_5_q38741 := by rw [h_M0_5_q38741]; exact KX12.sm18 k_M0_8_q38740 (SR.um (KX12.ese k_M0_8_q38740) (fun q => absurd q (by decide)) (fun q => absurd q (by decide)) (fun _ => ⟨by omega, by omega⟩))
              have t_38749 := ia_add y37_2 (1 : Int32) (by omega) (by omega)
              refine wq_v (fun v6_q38748 h_v6_q38748 => ?_)
              have t_v6_q38748 := congrArg Int32.toInt h_v6_q38748
              exact ih I0_l37 L0_l37 M0_5_q38741 v6_q38748 ⟨by omega, by omega⟩ k_M0_5_q38741 (by omega)
            · unfold fX12_on_J173
              refine wq_in (n := 7) ⟨by omega, by omega⟩ ?_
              refine wq_in (n := 7) ⟨by omega, by omega⟩ ?_
              refine wq_v (fun M0_5_q38750 h_M0_5_q38750 => ?_)
              have t_38751 : (M0_9_q38731 18 (2 : Int32).toNatClampNeg).toInt = (M0_l37 18 (2 : Int32).toNatClampNeg).toInt := by rw [h_M0_9_q38731]; rfl
              have t_38752 : (M0_10_q38732 18 (2 : Int32).toNatClampNeg).toInt = (M0_9_q38731 18 (2 : Int32).toNatClampNeg).toInt := by rw [h_M0_10_q38732]; rfl
              have t_38753 : (M0_11_q38733 18 (2 : Int32).toNatClampNeg).toInt = (M0_10_q38732 18 (2 : Int32).toNatClampNeg).toInt := by rw [h_M0_11_q38733]; rfl
              have t_38754 := ia_add (M0_11_q38733 18 (2 : Int32).toNatClampNeg) (1 : Int32) (by omega) (by omega)
              have k_M0_5_q38750 : KX12 I0_l37 M0_5_q38750 := by rw [h_M0_5_q38750]; exact KX12.sm18 k_M0_11_q38733 (SR.um (KX12.ese k_M0_11_q38733) (fun q => absurd q (by decide)) (fun q => absurd q (by decide)) (fun _ => ⟨by omega, by omega⟩))
              have t_38756 := ia_add y37_2 (1 : Int32) (by omega) (by omega)
              refine wq_v (fun v6_q38755 h_v6_q38755 => ?_)
              have t_v6_q38755 := congrArg Int32.toInt h_v6_q38755
              exact ih I0_l37 L0_l37 M0_5_q38750 v6_q38755 ⟨by omega, by omega⟩ k_M0_5_q38750 (by omega)
          · refine wq_in (n := 7) ⟨by omega, by omega⟩ ?_
            refine wq_le (fun hc_38757 => ?_) (fun hc_38758 => ?_)
            · unfold fX12_on_J144
              refine wq_in (n := 7) ⟨by omega, by omega⟩ ?_
              refine wq_eq (fun hc_38759 => ?_) (fun hc_38760 => ?_)
              · have l_4 := il_4
                refine wq_in (n := 7) ⟨by omega, by omega⟩ ?_
                refine wq_in (n := 7) ⟨by omega, by omega⟩ ?_
                refine wq_v (fun M0_7_q38761 h_M0_7_q38761 => ?_)
                have k_M0_7_q38761 : KX12 I0_l37 M0_7_q38761 := by rw [h_M0_7_q38761]; exact KX12.sm18 k_I0_l37 (SR.um (KX12.ese k_I0_l37) (fun q => absurd q (by decide)) (fun q => absurd q (by decide)) (fun q => absurd q (by decide)))
                have l_6 := il_6
                refine wq_in (n := 7) ⟨by omega, by omega⟩ ?_
                refine wq_v (fun M0_8_q38762 h_M0_8_q38762 => ?_)
                have k_M0_8_q38762 : KX12 I0_l37 M0_8_q38762 := by rw [h_M0_8_q38762]; exact KX12.sm18 k_M0_7_q38761 (SR.um (KX12.ese k_M0_7_q38761) (fun q => absurd q (by decide)) (fun q => absurd q (by decide)) (fun q => absurd q (by decide)))
                unfold fX12_on_J173
                refine wq_in (n := 7) ⟨by omega, by omega⟩ ?_
                refine wq_in (n := 7) ⟨by omega, by omega⟩ ?_
                refine wq_v (fun M0_5_q38763 h_M0_5_q38763 => ?_)
                have t_38764 : (M0_7_q38761 18 (2 : Int32).toNatClampNeg).toInt = (M0_l37 18 (2 : Int32).toNatClampNeg).toInt := by rw [h_M0_7_q38761]; rfl
                have t_38765 : (M0_8_q38762 18 (2 : Int32).toNatClampNeg).toInt = (M0_7_q38761 18 (2 : Int32).toNatClampNeg).toInt := by rw [h_M0_8_q38762]; rfl
                have t_38766 := ia_add (M0_8_q38762 18 (2 : Int32).toNatClampNeg) (1 : Int32) (by omega) (by omega)
                have k_M0_5_q38763 : KX12 I0_l37 M0_5_q38763 := by rw [h_M0_5_q38763]; exact KX12.sm18 k_M0_8_q38762 (SR.um (KX12.ese k_M0_8_q38762) (fun q => absurd q (by decide)) (fun q => absurd q (by decide)) (fun _ => ⟨by omega, by omega⟩))
                have t_38768 := ia_add y37_2 (1 : Int32) (by omega) (by omega)
                refine wq_v (fun v6_q38767 h_v6_q38767 => ?_)
                have t_v6_q38767 := congrArg Int32.toInt h_v6_q38767
                exact ih I0_l37 L0_l37 M0_5_q38763 v6_q38767 ⟨by omega, by omega⟩ k_M0_5_q38763 (by omega)
              · unfold fX12_on_J173
                refine wq_in (n := 7) ⟨by omega, by omega⟩ ?_
                refine wq_in (n := 7) ⟨by omega, by omega⟩ ?_
                refine wq_v (fun M0_5_q38769 h_M0_5_q38769 => ?_)
                have t_38770 := ia_add (M0_l37 18 (2 : Int32).toNatClampNeg) (1 : Int32) (by omega) (by omega)
                have k_M0_5_q38769 : KX12 I0_l37 M0_5_q38769 := by rw [h_M0_5_q38769]; exact KX12.sm18 k_I0_l37 (SR.um (KX12.ese k_I0_l37) (fun q => absurd q (by decide)) (fun q => absurd q (by decide)) (fun _ => ⟨by omega, by omega⟩))
                have t_38772 := ia_add y37_2 (1 : Int32) (by omega) (by omega)
                refine wq_v (fun v6_q38771 h_v6_q38771 => ?_)
                have t_v6_q38771 := congrArg Int32.toInt h_v6_q38771
                exact ih I0_l37 L0_l37 M0_5_q38769 v6_q38771 ⟨by omega, by omega⟩ k_M0_5_q38769 (by omega)
            · unfold fX12_on_J122
              refine wq_in (n := 7) ⟨by omega, by omega⟩ ?_
              refine wq_v (fun M0_9_q38773 h_M0_9_q38773 => ?_)
              have k_M0_9_q38773 : KX12 I0_l37 M0_9_q38773 := by rw [h_M0_9_q38773]; exact KX12.sm18 k_I0_l37 (SR.um (KX12.ese k_I0_l37) (fun q => absurd q (by decide)) (fun q => absurd q (by decide)) (fun q => absurd q (by decide)))
              have l_4 := il_4
              refine wq_in (n := 7) ⟨by omega, by omega⟩ ?_
              refine wq_v (fun M0_10_q38774 h_M0_10_q38774 => ?_)
              have k_M0_10_q38774 : KX12 I0_l37 M0_10_q38774 := by rw [h_M0_10_q38774]; exact KX12.sm18 k_M0_9_q38773 (SR.um (KX12.ese k_M0_9_q38773) (fun q => absurd q (by decide)) (fun q => absurd q (by decide)) (fun q => absurd q (by decide)))
              have l_5 := il_5
              refine wq_in (n := 7) ⟨by omega, by omega⟩ ?_
              refine wq_v (fun M0_11_q38775 h_M0_11_q38775 => ?_)
              have k_M0_11_q38775 : KX12 I0_l37 M0_11_q38775 := by rw [h_M0_11_q38775]; exact KX12.sm18 k_M0_10_q38774 (SR.um (KX12.ese k_M0_10_q38774) (fun q => absurd q (by decide)) (fun q => absurd q (by decide)) (fun q => absurd q (by decide)))
              unfold fX12_on_J144
              refine wq_in (n := 7) ⟨by omega, by omega⟩ ?_
              have t_38776 : (M0_9_q38773 18 (3 : Int32).toNatClampNeg).toInt = r12_q38728.toInt := by rw [h_M0_9_q38773]; rfl
              have t_38777 : (M0_10_q38774 18 (3 : Int32).toNatClampNeg).toInt = (M0_9_q38773 18 (3 : Int32).toNatClampNeg).toInt := by rw [h_M0_10_q38774]; rfl
              have t_38778 : (M0_11_q38775 18 (3 : Int32).toNatClampNeg).toInt = (M0_10_q38774 18 (3 : Int32).toNatClampNeg).toInt := by rw [h_M0_11_q38775]; rfl
              refine wq_eq (fun hc_38779 => ?_) (fun hc_38780 => ?_)
              · refine wq_in (n := 7) ⟨by omega, by omega⟩ ?_
                refine wq_in (n := 7) ⟨by omega, by omega⟩ ?_
                refine wq_v (fun M0_7_q38781 h_M0_7_q38781 => ?_)
                have k_M0_7_q38781 : KX12 I0_l37 M0_7_q38781 := by rw [h_M0_7_q38781]; exact KX12.sm18 k_M0_11_q38775 (SR.um (KX12.ese k_M0_11_q38775) (fun q => absurd q (by decide)) (fun q => absurd q (by decide)) (fun q => absurd q (by decide)))
                have l_6 := il_6
                refine wq_in (n := 7) ⟨by omega, by omega⟩ ?_
                refine wq_v (fun M0_8_q38782 h_M0_8_q38782 => ?_)
                have k_M0_8_q38782 : KX12 I0_l37 M0_8_q38782 := by rw [h_M0_8_q38782]; exact KX12.sm18 k_M0_7_q38781 (SR.um (KX12.ese k_M0_7_q38781) (fun q => absurd q (by decide)) (fun q => absurd q (by decide)) (fun q => absurd q (by decide)))
                unfold fX12_on_J173
                refine wq_in (n := 7) ⟨by omega, by omega⟩ ?_
                refine wq_in (n := 7) ⟨by omega, by omega⟩ ?_
                refine wq_v (fun M0_5_q38783 h_M0_5_q38783 => ?_)
                have t_38784 : (M0_9_q38773 18 (2 : Int32).toNatClampNeg).toInt = (M0_l37 18 (2 : Int32).toNatClampNeg).toInt := by rw [h_M0_9_q38773]; rfl
                have t_38785 : (M0_10_q38774 18 (2 : Int32).toNatClampNeg).toInt = (M0_9_q38773 18 (2 : Int32).toNatClampNeg).toInt := by rw [h_M0_10_q38774]; rfl
                have t_38786 : (M0_11_q38775 18 (2 : Int32).toNatClampNeg).toInt = (M0_10_q38774 18 (2 : Int32).toNatClampNeg).toInt := by rw [h_M0_11_q38775]; rfl
                have t_38787 : (M0_7_q38781 18 (2 : Int32).toNatClampNeg).toInt = (M0_11_q38775 18 (2 : Int32).toNatClampNeg).toInt := by rw [h_M0_7_q38781]; rfl
                have t_38788 : (M0_8_q38782 18 (2 : Int32).toNatClampNeg).toInt = (M0_7_q38781 18 (2 : Int32).toNatClampNeg).toInt := by rw [h_M0_8_q38782]; rfl
                have t_38789 := ia_add (M0_8_q38782 18 (2 : Int32).toNatClampNeg) (1 : Int32) (by omega) (by omega)
                have k_M0_5_q38783 : KX12 I0_l37 M0_5_q38783 := by rw [h_M0_5_q38783]; exact KX12.sm18 k_M0_8_q38782 (SR.um (KX12.ese k_M0_8_q38782) (fun q => absurd q (by decide)) (fun q => absurd q (by decide)) (fun _ => ⟨by omega, by omega⟩))
                have t_38791 := ia_add y37_2 (1 : Int32) (by omega) (by omega)
                refine wq_v (fun v6_q38790 h_v6_q38790 => ?_)
                have t_v6_q38790 := congrArg Int32.toInt h_v6_q38790
                exact ih I0_l37 L0_l37 M0_5_q38783 v6_q38790 ⟨by omega, by omega⟩ k_M0_5_q38783 (by omega)
              · unfold fX12_on_J173
                refine wq_in (n := 7) ⟨by omega, by omega⟩ ?_
                refine wq_in (n := 7) ⟨by omega, by omega⟩ ?_
                refine wq_v (fun M0_5_q38792 h_M0_5_q38792 => ?_)
                have t_38793 : (M0_9_q38773 18 (2 : Int32).toNatClampNeg).toInt = (M0_l37 18 (2 : Int32).toNatClampNeg).toInt := by rw [h_M0_9_q38773]; rfl
                have t_38794 : (M0_10_q38774 18 (2 : Int32).toNatClampNeg).toInt = (M0_9_q38773 18 (2 : Int32).toNatClampNeg).toInt := by rw [h_M0_10_q38774]; rfl
                have t_38795 : (M0_11_q38775 18 (2 : Int32).toNatClampNeg).toInt = (M0_10_q38774 18 (2 : Int32).toNatClampNeg).toInt := by rw [h_M0_11_q38775]; rfl
                have t_38796 := ia_add (M0_11_q38775 18 (2 : Int32).toNatClampNeg) (1 : Int32) (by omega) (by omega)
                have k_M0_5_q38792 : KX12 I0_l37 M0_5_q38792 := by rw [h_M0_5_q38792]; exact KX12.sm18 k_M0_11_q38775 (SR.um (KX12.ese k_M0_11_q38775) (fun q => absurd q (by decide)) (fun q => absurd q (by decide)) (fun _ => ⟨by omega, by omega⟩))
                have t_38798 := ia_add y37_2 (1 : Int32) (by omega) (by omega)
                refine wq_v (fun v6_q38797 h_v6_q38797 => ?_)
                have t_v6_q38797 := congrArg Int32.toInt h_v6_q38797
                exact ih I0_l37 L0_l37 M0_5_q38792 v6_q38797 ⟨by omega, by omega⟩ k_M0_5_q38792 (by omega)
set_option maxHeartbeats 4000000 in
theorem tt_fX12_on {N : Nat} (hN : 3000000000 ≤ N) (I0 : Nat → Int32) (L0 : Int64) (M0 : Nat → Nat → Int32) (x1 : Int32) (k_I0 : KX12 I0 M0) : wq (fX12_on N I0 L0 M0 x1) (fun r => (0 ≤ r.1.toInt ∧ r.1.toInt ≤ 50000) ∧ KX12 r.2.1 r.2.2.2 ∧ True) := by
  unfold fX12_on
  refine wq_v (fun I0_1_q38799 h_I0_1_q38799 => ?_)
  have k_I0_1_q38799 : KX12 I0_1_q38799 M0 := by rw [h_I0_1_q38799]; exact KX12.si0 k_I0
  have t_38800 := KX12.i16 k_I0
  have t_38801 : (I0_1_q38799 16).toInt = (I0 16).toInt := by rw [h_I0_1_q38799]; rfl
  have l_1 := il_1
  refine wq_b (tt_fX12_right hN I0_1_q38799 L0 M0 (I0_1_q38799 16) (1 : Int32) ⟨by omega, by omega⟩ k_I0_1_q38799) (fun r2_q38802 h_r2_q38802 => ?_)
  obtain ⟨h_r2_q38802_0, h_r2_q38802_1, h_r2_q38802_2, h_r2_q38802_3, -⟩ := h_r2_q38802
  have t_38803 := KX12.i1 h_r2_q38802_3
  have t_38804 := KX12.i1 k_I0
  have t_38805 : (I0_1_q38799 1).toInt = (I0 1).toInt := by rw [h_I0_1_q38799]; rfl
  have l_0 := il_0
  refine wq_eq (fun hc_38806 => ?_) (fun hc_38807 => ?_)
  · exact wq_s ⟨(show 0 ≤ (0 : Int32).toInt ∧ (0 : Int32).toInt ≤ 50000 from ⟨by omega, by omega⟩), h_r2_q38802_3, trivial⟩
  · have b_38808 := i32b x1
    have l_50000 := il_50000
    refine wq_b (tt_fX12_within hN x1 (0 : Int32) (50000 : Int32)) (fun r3_q38809 h_r3_q38809 => ?_)
    obtain ⟨h_r3_q38809_0, h_r3_q38809_1, -⟩ := h_r3_q38809
    have l_2 := il_2
    refine wq_b (tt_fX12_right hN r2_q38802.2.1 r2_q38802.2.2.1 r2_q38802.2.2.2 r3_q38809 (2 : Int32) ⟨by omega, by omega⟩ h_r2_q38802_3) (fun r4_q38810 h_r4_q38810 => ?_)
    obtain ⟨h_r4_q38810_0, h_r4_q38810_1, h_r4_q38810_2, h_r4_q38810_3, -⟩ := h_r4_q38810
    have t_38811 := KX12.i1 h_r4_q38810_3
    refine wq_eq (fun hc_38812 => ?_) (fun hc_38813 => ?_)
    · exact wq_s ⟨(show 0 ≤ (0 : Int32).toInt ∧ (0 : Int32).toInt ≤ 50000 from ⟨by omega, by omega⟩), h_r4_q38810_3, trivial⟩
    · exact tt_fX12_on_L37 hN x1 ⟨by omega, by omega⟩ N r4_q38810.2.1 r4_q38810.2.2.1 r4_q38810.2.2.2 (0 : Int32) ⟨by omega, by omega⟩ h_r4_q38810_3 (by omega)
set_option maxHeartbeats 4000000 in
theorem tt_fX12_held {N : Nat} (hN : 3000000000 ≤ N) (I0 : Nat → Int32) (L0 : Int64) (M0 : Nat → Nat → Int32) (x1 : Int32) (k_I0 : KX12 I0 M0) : wq (fX12_held N I0 L0 M0 x1) (fun r => KX12 r.2.1 r.2.2.2 ∧ True) := by
  unfold fX12_held
  refine wq_v (fun I0_2_q38988 h_I0_2_q38988 => ?_)
  have k_I0_2_q38988 : KX12 I0_2_q38988 M0 := by rw [h_I0_2_q38988]; exact KX12.si0 k_I0
  have t_38989 := KX12.i16 k_I0
  have t_38990 : (I0_2_q38988 16).toInt = (I0 16).toInt := by rw [h_I0_2_q38988]; rfl
  have l_0 := il_0
  refine wq_eq (fun hc_38991 => ?_) (fun hc_38992 => ?_)
  · unfold fX12_held_J26
    unfold fX12_held_J27
    have l_1 := il_1
    refine wq_b (tt_fX12_right hN I0_2_q38988 L0 M0 (0 : Int32) (1 : Int32) ⟨by omega, by omega⟩ k_I0_2_q38988) (fun r1_q38993 h_r1_q38993 => ?_)
    obtain ⟨h_r1_q38993_0, h_r1_q38993_1, h_r1_q38993_2, h_r1_q38993_3, -⟩ := h_r1_q38993
    have t_38994 := KX12.i1 h_r1_q38993_3
    have t_38995 := KX12.i1 k_I0
    have t_38996 : (I0_2_q38988 1).toInt = (I0 1).toInt := by rw [h_I0_2_q38988]; rfl
    refine wq_eq (fun hc_38997 => ?_) (fun hc_38998 => ?_)
    · exact wq_s ⟨h_r1_q38993_3, trivial⟩
    · have l_2 := il_2
      have b_38999 := i32b x1
      refine wq_in (n := 7) ⟨by omega, by omega⟩ ?_
      exact wq_s ⟨h_r1_q38993_3, trivial⟩
  · have b_39000 := i32b x1
    have l_4 := il_4
    refine wq_b (tt_fX12_within hN x1 (0 : Int32) (4 : Int32)) (fun r3_q39001 h_r3_q39001 => ?_)
    obtain ⟨h_r3_q39001_0, h_r3_q39001_1, -⟩ := h_r3_q39001
    refine wq_eq (fun hc_39002 => ?_) (fun hc_39003 => ?_)
    · unfold fX12_held_J26
      unfold fX12_held_J27
      have l_1 := il_1
      refine wq_b (tt_fX12_right hN I0_2_q38988 L0 M0 (0 : Int32) (1 : Int32) ⟨by omega, by omega⟩ k_I0_2_q38988) (fun r1_q39004 h_r1_q39004 => ?_)
      obtain ⟨h_r1_q39004_0, h_r1_q39004_1, h_r1_q39004_2, h_r1_q39004_3, -⟩ := h_r1_q39004
      have t_39005 := KX12.i1 h_r1_q39004_3
      have t_39006 := KX12.i1 k_I0
      have t_39007 : (I0_2_q38988 1).toInt = (I0 1).toInt := by rw [h_I0_2_q38988]; rfl
      refine wq_eq (fun hc_39008 => ?_) (fun hc_39009 => ?_)
      · exact wq_s ⟨h_r1_q39004_3, trivial⟩
      · have l_2 := il_2
        refine wq_in (n := 7) ⟨by omega, by omega⟩ ?_
        exact wq_s ⟨h_r1_q39004_3, trivial⟩
    · unfold fX12_held_J27
      have l_1 := il_1
      refine wq_b (tt_fX12_right hN I0_2_q38988 L0 M0 (1 : Int32) (1 : Int32) ⟨by omega, by omega⟩ k_I0_2_q38988) (fun r1_q39010 h_r1_q39010 => ?_)
      obtain ⟨h_r1_q39010_0, h_r1_q39010_1, h_r1_q39010_2, h_r1_q39010_3, -⟩ := h_r1_q39010
      have t_39011 := KX12.i1 h_r1_q39010_3
      have t_39012 := KX12.i1 k_I0
      have t_39013 : (I0_2_q38988 1).toInt = (I0 1).toInt := by rw [h_I0_2_q38988]; rfl
      refine wq_eq (fun hc_39014 => ?_) (fun hc_39015 => ?_)
      · exact wq_s ⟨h_r1_q39010_3, trivial⟩
      · have l_2 := il_2
        have t_39016 := ia_add (2 : Int32) x1 (by omega) (by omega)
        refine wq_in (n := 7) ⟨by omega, by omega⟩ ?_
        exact wq_s ⟨h_r1_q39010_3, trivial⟩
theorem tt_fX12_image {N : Nat} (hN : 3000000000 ≤ N) (I0 : Nat → Int32) (L0 : Int64) (M0 : Nat → Nat → Int32) (k_I0 : KX12 I0 M0) : wq (fX12_image N I0 L0 M0) (fun r => KX12 r.2.1 r.2.2.2 ∧ True) := by
  unfold fX12_image
  refine wq_v (fun I1 e1 => ?_)
  have k1 : KX12 I1 M0 := by rw [e1]; exact KX12.si0 k_I0
  refine wq_eq (fun hc => wq_s ⟨k1, trivial⟩) (fun hc => ?_)
  refine wq_v (fun I2 e2 => ?_)
  have k2 : KX12 I2 M0 := by rw [e2]; exact KX12.si17 k1 ⟨by decide, by decide⟩
  rw [tt_copies hN 7 (M0 18) 7 (M0 19) (by omega) (by decide), Option.bind_some]
  refine wq_v (fun M4 e4 => ?_)
  rw [e4]
  exact wq_s ⟨KX12.sf19 k2 ⟨k_I0.ese.1, k_I0.ese.2.1, k_I0.ese.2.2⟩, trivial⟩
theorem tt_fX12_restore {N : Nat} (hN : 3000000000 ≤ N) (I0 : Nat → Int32) (L0 : Int64) (M0 : Nat → Nat → Int32) (k_I0 : KX12 I0 M0) : wq (fX12_restore N I0 L0 M0) (fun r => KX12 r.2.1 r.2.2.2 ∧ True) := by
  unfold fX12_restore
  refine wq_v (fun I1 e1 => ?_)
  have k1 : KX12 I1 M0 := by rw [e1]; exact KX12.si0 k_I0
  refine wq_eq (fun hc => wq_s ⟨k1, trivial⟩) (fun hc => ?_)
  refine wq_v (fun I2 e2 => ?_)
  have k2 : KX12 I2 M0 := by rw [e2]; exact KX12.si16 k1 ⟨by decide, by decide⟩
  rw [tt_copies hN 7 (M0 19) 7 (M0 18) (by omega) (by decide), Option.bind_some]
  refine wq_v (fun M4 e4 => ?_)
  rw [e4]
  exact wq_s ⟨KX12.sf18 k2 ⟨k_I0.esi.1, k_I0.esi.2.1, k_I0.esi.2.2⟩, trivial⟩
set_option maxHeartbeats 4000000 in
theorem tt_fX12_misread {N : Nat} (hN : 3000000000 ≤ N) (I0 : Nat → Int32) (L0 : Int64) (M0 : Nat → Nat → Int32) (x1 : Int32) (x2 : Int32) (x3 : Int32) (x4 : Int32) (x5 : Int32) (k_I0 : KX12 I0 M0) : wq (fX12_misread N I0 L0 M0 x1 x2 x3 x4 x5) (fun r => (-1 ≤ r.1.toInt ∧ r.1.toInt ≤ 9) ∧ KX12 r.2.1 r.2.2.2 ∧ True) := by
  unfold fX12_misread
  have b_39485 := i32b x1
  have b_39486 := i32b x2
  refine wq_b (tt_fX12_isWheel hN I0 L0 M0 x1 x2 k_I0) (fun r5_q39487 h_r5_q39487 => ?_)
  obtain ⟨h_r5_q39487_0, h_r5_q39487_1, h_r5_q39487_2, h_r5_q39487_3, -⟩ := h_r5_q39487
  have t_39488 := KX12.i1 h_r5_q39487_3
  have t_39489 := KX12.i1 k_I0
  have l_0 := il_0
  refine wq_eq (fun hc_39490 => ?_) (fun hc_39491 => ?_)
  · exact wq_s ⟨(show -1 ≤ (0 : Int32).toInt ∧ (0 : Int32).toInt ≤ 9 from ⟨by omega, by omega⟩), h_r5_q39487_3, trivial⟩
  · have b_39492 := i32b x3
    have l_3 := il_3
    refine wq_b (tt_fX12_within hN x3 (0 : Int32) (3 : Int32)) (fun r6_q39493 h_r6_q39493 => ?_)
    obtain ⟨h_r6_q39493_0, h_r6_q39493_1, -⟩ := h_r6_q39493
    refine wq_eq (fun hc_39494 => ?_) (fun hc_39495 => ?_)
    · unfold fX12_misread_J45
      unfold fX12_misread_J46
      have l_1 := il_1
      refine wq_b (tt_fX12_right hN r5_q39487.2.1 r5_q39487.2.2.1 r5_q39487.2.2.2 (0 : Int32) (1 : Int32) ⟨by omega, by omega⟩ h_r5_q39487_3) (fun r1_q39496 h_r1_q39496 => ?_)
      obtain ⟨h_r1_q39496_0, h_r1_q39496_1, h_r1_q39496_2, h_r1_q39496_3, -⟩ := h_r1_q39496
      have t_39497 := KX12.i1 h_r1_q39496_3
      refine wq_eq (fun hc_39498 => ?_) (fun hc_39499 => ?_)
      · exact wq_s ⟨(show -1 ≤ (0 : Int32).toInt ∧ (0 : Int32).toInt ≤ 9 from ⟨by omega, by omega⟩), h_r1_q39496_3, trivial⟩
      · have l_20 := il_20
        have t_39500 := ia_mul (20 : Int32) (20) il_20 x1 (by omega) (by omega)
        have t_39501 := ia_add ((20 : Int32) * x1) x2 (by omega) (by omega)
        have b_39502 := i32b x5
        refine wq_b (tt_fX12_at hN r1_q39496.2.1 r1_q39496.2.2.1 r1_q39496.2.2.2 (((20 : Int32) * x1) + x2) x5 ⟨by omega, by omega⟩ ⟨by omega, by omega⟩ h_r1_q39496_3) (fun r2_q39503 h_r2_q39503 => ?_)
        obtain ⟨h_r2_q39503_0, h_r2_q39503_1, h_r2_q39503_2, -⟩ := h_r2_q39503
        have l_m1 := il_m1
        refine wq_eq (fun hc_39504 => ?_) (fun hc_39505 => ?_)
        · exact wq_s ⟨(show -1 ≤ (-1 : Int32).toInt ∧ (-1 : Int32).toInt ≤ 9 from ⟨by omega, by omega⟩), h_r1_q39496_3, trivial⟩
        · have b_39506 := i32b x4
          refine wq_b (tt_fX12_placeOn hN r1_q39496.2.1 r1_q39496.2.2.1 r1_q39496.2.2.2 x3 x5 x4 ⟨by omega, by omega⟩ ⟨by omega, by omega⟩ h_r1_q39496_3) (fun r3_q39507 h_r3_q39507 => ?_)
          obtain ⟨-⟩ := h_r3_q39507
          have b_39508 := i32b r3_q39507
          have l_60 := il_60
          have t_39509 := i32b r3_q39507
          have t_39510 := ia_div2 r3_q39507 (60 : Int32) 60 il_60 (by decide)
          refine wq_b (tt_fX12_beside hN r1_q39496.2.1 r1_q39496.2.2.1 r1_q39496.2.2.2 r2_q39503 (r3_q39507 / (60 : Int32)) ⟨by omega, by omega⟩ h_r1_q39496_3) (fun r4_q39511 h_r4_q39511 => ?_)
          obtain ⟨h_r4_q39511_0, -⟩ := h_r4_q39511
          exact wq_s ⟨(show -1 ≤ r4_q39511.toInt ∧ r4_q39511.toInt ≤ 9 from ⟨by omega, by omega⟩), h_r1_q39496_3, trivial⟩
    · have b_39512 := i32b x4
      have l_1000000 := il_1000000
      refine wq_b (tt_fX12_within hN x4 (0 : Int32) (1000000 : Int32)) (fun r7_q39513 h_r7_q39513 => ?_)
      obtain ⟨h_r7_q39513_0, h_r7_q39513_1, -⟩ := h_r7_q39513
      refine wq_eq (fun hc_39514 => ?_) (fun hc_39515 => ?_)
      · unfold fX12_misread_J45
        unfold fX12_misread_J46
        have l_1 := il_1
        refine wq_b (tt_fX12_right hN r5_q39487.2.1 r5_q39487.2.2.1 r5_q39487.2.2.2 (0 : Int32) (1 : Int32) ⟨by omega, by omega⟩ h_r5_q39487_3) (fun r1_q39516 h_r1_q39516 => ?_)
        obtain ⟨h_r1_q39516_0, h_r1_q39516_1, h_r1_q39516_2, h_r1_q39516_3, -⟩ := h_r1_q39516
        have t_39517 := KX12.i1 h_r1_q39516_3
        refine wq_eq (fun hc_39518 => ?_) (fun hc_39519 => ?_)
        · exact wq_s ⟨(show -1 ≤ (0 : Int32).toInt ∧ (0 : Int32).toInt ≤ 9 from ⟨by omega, by omega⟩), h_r1_q39516_3, trivial⟩
        · have l_20 := il_20
          have t_39520 := ia_mul (20 : Int32) (20) il_20 x1 (by omega) (by omega)
          have t_39521 := ia_add ((20 : Int32) * x1) x2 (by omega) (by omega)
          have b_39522 := i32b x5
          refine wq_b (tt_fX12_at hN r1_q39516.2.1 r1_q39516.2.2.1 r1_q39516.2.2.2 (((20 : Int32) * x1) + x2) x5 ⟨by omega, by omega⟩ ⟨by omega, by omega⟩ h_r1_q39516_3) (fun r2_q39523 h_r2_q39523 => ?_)
          obtain ⟨h_r2_q39523_0, h_r2_q39523_1, h_r2_q39523_2, -⟩ := h_r2_q39523
          have l_m1 := il_m1
          refine wq_eq (fun hc_39524 => ?_) (fun hc_39525 => ?_)
          · exact wq_s ⟨(show -1 ≤ (-1 : Int32).toInt ∧ (-1 : Int32).toInt ≤ 9 from ⟨by omega, by omega⟩), h_r1_q39516_3, trivial⟩
          · refine wq_b (tt_fX12_placeOn hN r1_q39516.2.1 r1_q39516.2.2.1 r1_q39516.2.2.2 x3 x5 x4 ⟨by omega, by omega⟩ ⟨by omega, by omega⟩ h_r1_q39516_3) (fun r3_q39526 h_r3_q39526 => ?_)
            obtain ⟨-⟩ := h_r3_q39526
            have b_39527 := i32b r3_q39526
            have l_60 := il_60
            have t_39528 := i32b r3_q39526
            have t_39529 := ia_div2 r3_q39526 (60 : Int32) 60 il_60 (by decide)
            refine wq_b (tt_fX12_beside hN r1_q39516.2.1 r1_q39516.2.2.1 r1_q39516.2.2.2 r2_q39523 (r3_q39526 / (60 : Int32)) ⟨by omega, by omega⟩ h_r1_q39516_3) (fun r4_q39530 h_r4_q39530 => ?_)
            obtain ⟨h_r4_q39530_0, -⟩ := h_r4_q39530
            exact wq_s ⟨(show -1 ≤ r4_q39530.toInt ∧ r4_q39530.toInt ≤ 9 from ⟨by omega, by omega⟩), h_r1_q39516_3, trivial⟩
      · have b_39531 := i32b x5
        have l_6 := il_6
        refine wq_b (tt_fX12_within hN x5 (0 : Int32) (6 : Int32)) (fun r8_q39532 h_r8_q39532 => ?_)
        obtain ⟨h_r8_q39532_0, h_r8_q39532_1, -⟩ := h_r8_q39532
        refine wq_eq (fun hc_39533 => ?_) (fun hc_39534 => ?_)
        · unfold fX12_misread_J45
          unfold fX12_misread_J46
          have l_1 := il_1
          refine wq_b (tt_fX12_right hN r5_q39487.2.1 r5_q39487.2.2.1 r5_q39487.2.2.2 (0 : Int32) (1 : Int32) ⟨by omega, by omega⟩ h_r5_q39487_3) (fun r1_q39535 h_r1_q39535 => ?_)
          obtain ⟨h_r1_q39535_0, h_r1_q39535_1, h_r1_q39535_2, h_r1_q39535_3, -⟩ := h_r1_q39535
          have t_39536 := KX12.i1 h_r1_q39535_3
          refine wq_eq (fun hc_39537 => ?_) (fun hc_39538 => ?_)
          · exact wq_s ⟨(show -1 ≤ (0 : Int32).toInt ∧ (0 : Int32).toInt ≤ 9 from ⟨by omega, by omega⟩), h_r1_q39535_3, trivial⟩
          · have l_20 := il_20
            have t_39539 := ia_mul (20 : Int32) (20) il_20 x1 (by omega) (by omega)
            have t_39540 := ia_add ((20 : Int32) * x1) x2 (by omega) (by omega)
            refine wq_b (tt_fX12_at hN r1_q39535.2.1 r1_q39535.2.2.1 r1_q39535.2.2.2 (((20 : Int32) * x1) + x2) x5 ⟨by omega, by omega⟩ ⟨by omega, by omega⟩ h_r1_q39535_3) (fun r2_q39541 h_r2_q39541 => ?_)
            obtain ⟨h_r2_q39541_0, h_r2_q39541_1, h_r2_q39541_2, -⟩ := h_r2_q39541
            have l_m1 := il_m1
            refine wq_eq (fun hc_39542 => ?_) (fun hc_39543 => ?_)
            · exact wq_s ⟨(show -1 ≤ (-1 : Int32).toInt ∧ (-1 : Int32).toInt ≤ 9 from ⟨by omega, by omega⟩), h_r1_q39535_3, trivial⟩
            · refine wq_b (tt_fX12_placeOn hN r1_q39535.2.1 r1_q39535.2.2.1 r1_q39535.2.2.2 x3 x5 x4 ⟨by omega, by omega⟩ ⟨by omega, by omega⟩ h_r1_q39535_3) (fun r3_q39544 h_r3_q39544 => ?_)
              obtain ⟨-⟩ := h_r3_q39544
              have b_39545 := i32b r3_q39544
              have l_60 := il_60
              have t_39546 := i32b r3_q39544
              have t_39547 := ia_div2 r3_q39544 (60 : Int32) 60 il_60 (by decide)
              refine wq_b (tt_fX12_beside hN r1_q39535.2.1 r1_q39535.2.2.1 r1_q39535.2.2.2 r2_q39541 (r3_q39544 / (60 : Int32)) ⟨by omega, by omega⟩ h_r1_q39535_3) (fun r4_q39548 h_r4_q39548 => ?_)
              obtain ⟨h_r4_q39548_0, -⟩ := h_r4_q39548
              exact wq_s ⟨(show -1 ≤ r4_q39548.toInt ∧ r4_q39548.toInt ≤ 9 from ⟨by omega, by omega⟩), h_r1_q39535_3, trivial⟩
        · unfold fX12_misread_J46
          have l_1 := il_1
          refine wq_b (tt_fX12_right hN r5_q39487.2.1 r5_q39487.2.2.1 r5_q39487.2.2.2 (1 : Int32) (1 : Int32) ⟨by omega, by omega⟩ h_r5_q39487_3) (fun r1_q39549 h_r1_q39549 => ?_)
          obtain ⟨h_r1_q39549_0, h_r1_q39549_1, h_r1_q39549_2, h_r1_q39549_3, -⟩ := h_r1_q39549
          have t_39550 := KX12.i1 h_r1_q39549_3
          refine wq_eq (fun hc_39551 => ?_) (fun hc_39552 => ?_)
          · exact wq_s ⟨(show -1 ≤ (0 : Int32).toInt ∧ (0 : Int32).toInt ≤ 9 from ⟨by omega, by omega⟩), h_r1_q39549_3, trivial⟩
          · have l_20 := il_20
            have t_39553 := ia_mul (20 : Int32) (20) il_20 x1 (by omega) (by omega)
            have t_39554 := ia_add ((20 : Int32) * x1) x2 (by omega) (by omega)
            refine wq_b (tt_fX12_at hN r1_q39549.2.1 r1_q39549.2.2.1 r1_q39549.2.2.2 (((20 : Int32) * x1) + x2) x5 ⟨by omega, by omega⟩ ⟨by omega, by omega⟩ h_r1_q39549_3) (fun r2_q39555 h_r2_q39555 => ?_)
            obtain ⟨h_r2_q39555_0, h_r2_q39555_1, h_r2_q39555_2, -⟩ := h_r2_q39555
            have l_m1 := il_m1
            refine wq_eq (fun hc_39556 => ?_) (fun hc_39557 => ?_)
            · exact wq_s ⟨(show -1 ≤ (-1 : Int32).toInt ∧ (-1 : Int32).toInt ≤ 9 from ⟨by omega, by omega⟩), h_r1_q39549_3, trivial⟩
            · refine wq_b (tt_fX12_placeOn hN r1_q39549.2.1 r1_q39549.2.2.1 r1_q39549.2.2.2 x3 x5 x4 ⟨by omega, by omega⟩ ⟨by omega, by omega⟩ h_r1_q39549_3) (fun r3_q39558 h_r3_q39558 => ?_)
              obtain ⟨-⟩ := h_r3_q39558
              have b_39559 := i32b r3_q39558
              have l_60 := il_60
              have t_39560 := i32b r3_q39558
              have t_39561 := ia_div2 r3_q39558 (60 : Int32) 60 il_60 (by decide)
              refine wq_b (tt_fX12_beside hN r1_q39549.2.1 r1_q39549.2.2.1 r1_q39549.2.2.2 r2_q39555 (r3_q39558 / (60 : Int32)) ⟨by omega, by omega⟩ h_r1_q39549_3) (fun r4_q39562 h_r4_q39562 => ?_)
              obtain ⟨h_r4_q39562_0, -⟩ := h_r4_q39562
              exact wq_s ⟨(show -1 ≤ r4_q39562.toInt ∧ r4_q39562.toInt ≤ 9 from ⟨by omega, by omega⟩), h_r1_q39549_3, trivial⟩
set_option maxHeartbeats 4000000 in
theorem tt_fX12_errors_L340 {N : Nat} (hN : 3000000000 ≤ N) (x1 : Int32) (x2 : Int32) (x3 : Int32) (x4 : Int32) (g51 : (Nat → Int32) → Int64 → (Nat → Nat → Int32) → Int32 → Option (Int32 × (Nat → Int32) × Int64 × (Nat → Nat → Int32))) (g90 : (Nat → Int32) → Int64 → (Nat → Nat → Int32) → Int32 → Int32 → Option (Int32 × (Nat → Int32) × Int64 × (Nat → Nat → Int32))) (h_x1 : 0 ≤ x1.toInt ∧ x1.toInt ≤ 5) (h_x2 : 0 ≤ x2.toInt ∧ x2.toInt ≤ 19) (h_x3 : 0 ≤ x3.toInt ∧ x3.toInt ≤ 1000000) (h_x4 : 1 ≤ x4.toInt ∧ x4.toInt ≤ 1)  : ∀ (fu : Nat) (I0_l340 : (Nat → Int32)) (L0_l340 : Int64) (M0_l340 : (Nat → Nat → Int32)) (y340_6 : Int32) (y340_7 : Int32), (1 ≤ y340_6.toInt ∧ y340_6.toInt ≤ 3) → (2 ≤ y340_7.toInt ∧ y340_7.toInt ≤ 4) → (KX12 I0_l340 M0_l340) → (4 - y340_7.toInt) < (fu : Int) → wq (fX12_errors_L340 N x1 x2 x3 x4 g51 g90 fu I0_l340 L0_l340 M0_l340 y340_6 y340_7) (fun r => KX12 r.2.1 r.2.2.2 ∧ True) := by
  intro fu
  induction fu with
  | zero => intro I0_l340 L0_l340 M0_l340 y340_6 y340_7 h_y340_6 h_y340_7 k_I0_l340 hm; exfalso; omega
  | succ fu ih =>
    intro I0_l340 L0_l340 M0_l340 y340_6 y340_7 h_y340_6 h_y340_7 k_I0_l340 hm
    rw [fX12_errors_L340.eq_2]
    have l_4 := il_4
    refine wq_le (fun hc_43290 => ?_) (fun hc_43291 => ?_)
    · refine wq_in (n := 4) ⟨by omega, by omega⟩ ?_
      have l_0 := il_0
      refine wq_eq (fun hc_43292 => ?_) (fun hc_43293 => ?_)
      · have l_m1 := il_m1
        exact wq_s ⟨k_I0_l340, trivial⟩
      · exact wq_s ⟨k_I0_l340, trivial⟩
    · refine wq_in (n := 4) ⟨by omega, by omega⟩ ?_
      refine wq_in (n := 4) ⟨by omega, by omega⟩ ?_
      refine wq_le (fun hc_43294 => ?_) (fun hc_43295 => ?_)
      · have l_1 := il_1
        have t_43297 := ia_add y340_7 (1 : Int32) (by omega) (by omega)
        refine wq_v (fun v2_q43296 h_v2_q43296 => ?_)
        have t_v2_q43296 := congrArg Int32.toInt h_v2_q43296
        exact ih I0_l340 L0_l340 M0_l340 y340_6 v2_q43296 ⟨by omega, by omega⟩ ⟨by omega, by omega⟩ k_I0_l340 (by omega)
      · have l_1 := il_1
        have t_43299 := ia_add y340_7 (1 : Int32) (by omega) (by omega)
        refine wq_v (fun v3_q43298 h_v3_q43298 => ?_)
        have t_v3_q43298 := congrArg Int32.toInt h_v3_q43298
        exact ih I0_l340 L0_l340 M0_l340 y340_7 v3_q43298 ⟨by omega, by omega⟩ ⟨by omega, by omega⟩ k_I0_l340 (by omega)
set_option maxHeartbeats 4000000 in
theorem wq_be {α β : Type} {x : Option α} {k : α → Option β} {P : α → Prop} {Q : β → Prop} (h : wq x P) (h2 : ∀ r, x = some r → P r → wq (k r) Q) : wq (x.bind k) Q := by
  obtain ⟨r, e, hr⟩ := h
  rw [e]
  exact h2 r e hr
def ER (N : Nat) (I : Nat → Int32) (L : Int64) (M : Nat → Nat → Int32) (k d e n b : Int32) : Prop :=
  0 ≤ b.toInt ∧ b.toInt < n.toInt ∧ ∀ s p : Int32, 1 ≤ s.toInt → s.toInt < n.toInt → fX12_placeOn N I L M s k d = some p → (p / (60 : Int32)).toInt = e.toInt → 1 ≤ b.toInt
theorem pl_um {N : Nat} {I : Nat → Int32} {L : Int64} {M : Nat → Nat → Int32} {q i : Nat} {v s k d : Int32} (hq : 4 ≤ q) : fX12_placeOn N I L (wb_um M q i v) s k d = fX12_placeOn N I L M s k d := by
  have h0 : wb_um M q i v 0 = M 0 := by unfold wb_um; exact if_neg (by omega)
  have h1 : wb_um M q i v 1 = M 1 := by unfold wb_um; exact if_neg (by omega)
  have h2 : wb_um M q i v 2 = M 2 := by unfold wb_um; exact if_neg (by omega)
  have h3 : wb_um M q i v 3 = M 3 := by unfold wb_um; exact if_neg (by omega)
  unfold fX12_placeOn fX12_placeOn_J79
  simp only [h0, h1, h2, h3]
theorem ER_um {N : Nat} {I : Nat → Int32} {L : Int64} {M : Nat → Nat → Int32} {k d e n b : Int32} {q i : Nat} {v : Int32} (hq : 4 ≤ q) (h : ER N I L M k d e n b) : ER N I L (wb_um M q i v) k d e n b :=
  ⟨h.1, h.2.1, fun s p h1 h2 h3 h4 => h.2.2 s p h1 h2 ((pl_um hq).symm.trans h3) h4⟩
theorem ER_0 {N : Nat} {I : Nat → Int32} {L : Int64} {M : Nat → Nat → Int32} {k d e : Int32} : ER N I L M k d e (1 : Int32) (0 : Int32) := by
  have l_0 := il_0
  have l_1 := il_1
  exact ⟨by omega, by omega, fun s p h1 h2 => by omega⟩
theorem ER_4 {N : Nat} {I : Nat → Int32} {L : Int64} {M : Nat → Nat → Int32} {k d e n b : Int32} (h : ER N I L M k d e n b) (hn : n.toInt = 4) : ER N I L M k d e (4 : Int32) b := by
  have l_4 := il_4
  exact ⟨h.1, by have := h.2.1; omega, fun s p h1 h2 => h.2.2 s p h1 (by omega)⟩
theorem ER_y {N : Nat} {I : Nat → Int32} {L : Int64} {M : Nat → Nat → Int32} {k d e n b n2 b2 p : Int32} (h : ER N I L M k d e n b) (_ : fX12_placeOn N I L M n k d = some p) (_ : (p / (60 : Int32)).toInt = e.toInt) (hb : b2.toInt = b.toInt + 1) (hn : n2.toInt = n.toInt + 1) : ER N I L M k d e n2 b2 := by
  have h1 := h.1
  have h2 := h.2.1
  exact ⟨by omega, by omega, fun s p _ _ _ _ => by omega⟩
theorem ER_n {N : Nat} {I : Nat → Int32} {L : Int64} {M : Nat → Nat → Int32} {k d e n b n2 b2 p : Int32} (h : ER N I L M k d e n b) (hp : fX12_placeOn N I L M n k d = some p) (hne : ¬ (p / (60 : Int32)).toInt = e.toInt) (hb : b2.toInt = b.toInt) (hn : n2.toInt = n.toInt + 1) : ER N I L M k d e n2 b2 := by
  have h1 := h.1
  have h2 := h.2.1
  refine ⟨by omega, by omega, fun s p' h3 h4 h5 h6 => ?_⟩
  by_cases hs : s.toInt = n.toInt
  · have : s = n := Int32.toInt_inj.mp hs
    rw [this, hp] at h5
    exact absurd (Option.some.inj h5 ▸ h6) hne
  · rw [hb]
    exact h.2.2 s p' h3 (by omega) h5 h6
set_option maxHeartbeats 4000000 in
theorem tt_fX12_errors_L187 {N : Nat} (hN : 3000000000 ≤ N) (x1 : Int32) (x2 : Int32) (x3 : Int32) (x4 : Int32) (r4 : Int32) (v7 : Int32) (y145_8 : Int32) (y90_6 : Int32) (g51 : (Nat → Int32) → Int64 → (Nat → Nat → Int32) → Int32 → Option (Int32 × (Nat → Int32) × Int64 × (Nat → Nat → Int32))) (g90 : (Nat → Int32) → Int64 → (Nat → Nat → Int32) → Int32 → Int32 → Option (Int32 × (Nat → Int32) × Int64 × (Nat → Nat → Int32))) (g145 : (Nat → Int32) → Int64 → (Nat → Nat → Int32) → Int32 → Int32 → Option (Int32 × (Nat → Int32) × Int64 × (Nat → Nat → Int32))) (h_x1 : 0 ≤ x1.toInt ∧ x1.toInt ≤ 5) (h_x2 : 0 ≤ x2.toInt ∧ x2.toInt ≤ 19) (h_x3 : 0 ≤ x3.toInt ∧ x3.toInt ≤ 1000000) (h_x4 : 0 ≤ x4.toInt ∧ x4.toInt ≤ 10) (h_r4 : 0 ≤ r4.toInt ∧ r4.toInt ≤ 359) (h_y90_6 : 0 ≤ y90_6.toInt ∧ y90_6.toInt ≤ 6) (hg90 : ∀ (q0 : (Nat → Int32)) (q1 : Int64) (q2 : (Nat → Nat → Int32)) (q3 : Int32) (q4 : Int32), (0 ≤ q4.toInt ∧ q4.toInt ≤ 7) → (KX12 q0 q2) → (y90_6.toInt < q4.toInt) → wq (g90 q0 q1 q2 q3 q4) (fun r => KX12 r.2.1 r.2.2.2 ∧ True)) : ∀ (fu : Nat) (I0_l187 : (Nat → Int32)) (L0_l187 : Int64) (M0_l187 : (Nat → Nat → Int32)) (y187_9 : Int32), (1 ≤ y187_9.toInt ∧ y187_9.toInt ≤ 4) → (KX12 I0_l187 M0_l187) → ER N I0_l187 L0_l187 M0_l187 y90_6 x3 r4 (4 : Int32) y145_8 → (4 - y187_9.toInt) < (fu : Int) → wq (fX12_errors_L187 N x1 x2 x3 x4 r4 v7 y145_8 y90_6 g51 g90 g145 fu I0_l187 L0_l187 M0_l187 y187_9) (fun r => KX12 r.2.1 r.2.2.2 ∧ True) := by
  intro fu
  induction fu with
  | zero => intro I0_l187 L0_l187 M0_l187 y187_9 h_y187_9 k_I0_l187 hE hm; exfalso; omega
  | succ fu ih =>
    intro I0_l187 L0_l187 M0_l187 y187_9 h_y187_9 k_I0_l187 hE hm
    rw [fX12_errors_L187.eq_2]
    have l_4 := il_4
    refine wq_le (fun hc_43300 => ?_) (fun hc_43301 => ?_)
    · have l_1 := il_1
      have t_43303 := ia_add y90_6 (1 : Int32) (by omega) (by omega)
      refine wq_v (fun v11_q43302 h_v11_q43302 => ?_)
      have t_v11_q43302 := congrArg Int32.toInt h_v11_q43302
      have b_43304 := i32b v7
      exact hg90 I0_l187 L0_l187 M0_l187 v7 v11_q43302 ⟨by omega, by omega⟩ k_I0_l187 (by omega)
    · refine wq_be (tt_fX12_placeOn hN I0_l187 L0_l187 M0_l187 y187_9 y90_6 x3 ⟨by omega, by omega⟩ ⟨by omega, by omega⟩ k_I0_l187) (fun r12_q43305 hpl h_r12_q43305 => ?_)
      obtain ⟨-⟩ := h_r12_q43305
      have b_43306 := i32b r12_q43305
      have l_60 := il_60
      have t_43307 := i32b r12_q43305
      have t_43308 := ia_div2 r12_q43305 (60 : Int32) 60 il_60 (by decide)
      refine wq_eq (fun hc_43309 => ?_) (fun hc_43310 => ?_)
      · refine wq_in (n := 4) ⟨by omega, by omega⟩ ?_
        refine wq_in (n := 4) ⟨by omega, by omega⟩ ?_
        refine wq_v (fun M0_13_q43311 h_M0_13_q43311 => ?_)
        have k_M0_13_q43311 : KX12 I0_l187 M0_13_q43311 := by rw [h_M0_13_q43311]; exact KX12.sm20 k_I0_l187
        refine wq_in (n := 4) ⟨by omega, by omega⟩ ?_
        have b_43312 := i32b y145_8
        have l_1 := il_1
        refine wq_eq (fun hc_43313 => ?_) (fun hc_43314 => ?_)
        · unfold fX12_errors_J243
          refine wq_in (n := 4) ⟨by omega, by omega⟩ ?_
          refine wq_v (fun M0_8_q43315 h_M0_8_q43315 => ?_)
          have k_M0_8_q43315 : KX12 I0_l187 M0_8_q43315 := by rw [h_M0_8_q43315]; exact KX12.sm21 k_M0_13_q43311
          refine wq_in (n := 4) ⟨by omega, by omega⟩ ?_
          refine wq_nz (by have hb := hE.2.2 _ _ (by omega) (by omega) hpl hc_43309; omega) ?_
          refine wq_in (n := 4) ⟨by omega, by omega⟩ ?_
          refine wq_v (fun M0_9_q43316 h_M0_9_q43316 => ?_)
          have k_M0_9_q43316 : KX12 I0_l187 M0_9_q43316 := by rw [h_M0_9_q43316]; exact KX12.sm22 k_M0_8_q43315
          have t_43318 := ia_add y187_9 (1 : Int32) (by omega) (by omega)
          refine wq_v (fun v10_q43317 h_v10_q43317 => ?_)
          have t_v10_q43317 := congrArg Int32.toInt h_v10_q43317
          exact ih I0_l187 L0_l187 M0_9_q43316 v10_q43317 ⟨by omega, by omega⟩ k_M0_9_q43316 (by rw [h_M0_9_q43316, h_M0_8_q43315, h_M0_13_q43311]; exact ER_um (by decide) (ER_um (by decide) (ER_um (by decide) hE))) (by omega)
        · unfold fX12_errors_J243
          refine wq_in (n := 4) ⟨by omega, by omega⟩ ?_
          refine wq_v (fun M0_8_q43319 h_M0_8_q43319 => ?_)
          have k_M0_8_q43319 : KX12 I0_l187 M0_8_q43319 := by rw [h_M0_8_q43319]; exact KX12.sm21 k_M0_13_q43311
          refine wq_in (n := 4) ⟨by omega, by omega⟩ ?_
          refine wq_nz (by have hb := hE.2.2 _ _ (by omega) (by omega) hpl hc_43309; omega) ?_
          refine wq_in (n := 4) ⟨by omega, by omega⟩ ?_
          refine wq_v (fun M0_9_q43320 h_M0_9_q43320 => ?_)
          have k_M0_9_q43320 : KX12 I0_l187 M0_9_q43320 := by rw [h_M0_9_q43320]; exact KX12.sm22 k_M0_8_q43319
          have t_43322 := ia_add y187_9 (1 : Int32) (by omega) (by omega)
          refine wq_v (fun v10_q43321 h_v10_q43321 => ?_)
          have t_v10_q43321 := congrArg Int32.toInt h_v10_q43321
          exact ih I0_l187 L0_l187 M0_9_q43320 v10_q43321 ⟨by omega, by omega⟩ k_M0_9_q43320 (by rw [h_M0_9_q43320, h_M0_8_q43319, h_M0_13_q43311]; exact ER_um (by decide) (ER_um (by decide) (ER_um (by decide) hE))) (by omega)
      · have l_1 := il_1
        have t_43324 := ia_add y187_9 (1 : Int32) (by omega) (by omega)
        refine wq_v (fun v14_q43323 h_v14_q43323 => ?_)
        have t_v14_q43323 := congrArg Int32.toInt h_v14_q43323
        exact ih I0_l187 L0_l187 M0_l187 v14_q43323 ⟨by omega, by omega⟩ k_I0_l187 hE (by omega)
set_option maxHeartbeats 4000000 in
theorem tt_fX12_errors_L145 {N : Nat} (hN : 3000000000 ≤ N) (x1 : Int32) (x2 : Int32) (x3 : Int32) (x4 : Int32) (r4 : Int32) (v7 : Int32) (y90_6 : Int32) (g51 : (Nat → Int32) → Int64 → (Nat → Nat → Int32) → Int32 → Option (Int32 × (Nat → Int32) × Int64 × (Nat → Nat → Int32))) (g90 : (Nat → Int32) → Int64 → (Nat → Nat → Int32) → Int32 → Int32 → Option (Int32 × (Nat → Int32) × Int64 × (Nat → Nat → Int32))) (h_x1 : 0 ≤ x1.toInt ∧ x1.toInt ≤ 5) (h_x2 : 0 ≤ x2.toInt ∧ x2.toInt ≤ 19) (h_x3 : 0 ≤ x3.toInt ∧ x3.toInt ≤ 1000000) (h_x4 : 0 ≤ x4.toInt ∧ x4.toInt ≤ 10) (h_r4 : 0 ≤ r4.toInt ∧ r4.toInt ≤ 359) (h_y90_6 : 0 ≤ y90_6.toInt ∧ y90_6.toInt ≤ 6) (hg90 : ∀ (q0 : (Nat → Int32)) (q1 : Int64) (q2 : (Nat → Nat → Int32)) (q3 : Int32) (q4 : Int32), (0 ≤ q4.toInt ∧ q4.toInt ≤ 7) → (KX12 q0 q2) → (y90_6.toInt < q4.toInt) → wq (g90 q0 q1 q2 q3 q4) (fun r => KX12 r.2.1 r.2.2.2 ∧ True)) : ∀ (fu : Nat) (I0_l145 : (Nat → Int32)) (L0_l145 : Int64) (M0_l145 : (Nat → Nat → Int32)) (y145_8 : Int32) (y145_9 : Int32), (1 ≤ y145_9.toInt ∧ y145_9.toInt ≤ 4) → (KX12 I0_l145 M0_l145) → ER N I0_l145 L0_l145 M0_l145 y90_6 x3 r4 y145_9 y145_8 → (4 - y145_9.toInt) < (fu : Int) → wq (fX12_errors_L145 N x1 x2 x3 x4 r4 v7 y90_6 g51 g90 fu I0_l145 L0_l145 M0_l145 y145_8 y145_9) (fun r => KX12 r.2.1 r.2.2.2 ∧ True) := by
  intro fu
  induction fu with
  | zero => intro I0_l145 L0_l145 M0_l145 y145_8 y145_9 h_y145_9 k_I0_l145 hE hm; exfalso; omega
  | succ fu ih =>
    intro I0_l145 L0_l145 M0_l145 y145_8 y145_9 h_y145_9 k_I0_l145 hE hm
    have hE1 := hE.1
    have hE2 := hE.2.1
    rw [fX12_errors_L145.eq_2]
    have l_4 := il_4
    refine wq_le (fun hc_43325 => ?_) (fun hc_43326 => ?_)
    · have b_43327 := i32b v7
      have b_43328 := i32b y145_8
      have l_1 := il_1
      exact tt_fX12_errors_L187 hN x1 x2 x3 x4 r4 v7 y145_8 y90_6 g51 g90 _ ⟨by omega, by omega⟩ ⟨by omega, by omega⟩ ⟨by omega, by omega⟩ ⟨by omega, by omega⟩ ⟨by omega, by omega⟩ ⟨by omega, by omega⟩ hg90 N I0_l145 L0_l145 M0_l145 (1 : Int32) ⟨by omega, by omega⟩ k_I0_l145 (ER_4 hE (by omega)) (by omega)
    · refine wq_be (tt_fX12_placeOn hN I0_l145 L0_l145 M0_l145 y145_9 y90_6 x3 ⟨by omega, by omega⟩ ⟨by omega, by omega⟩ k_I0_l145) (fun r15_q43329 hpl h_r15_q43329 => ?_)
      obtain ⟨-⟩ := h_r15_q43329
      have b_43330 := i32b r15_q43329
      have l_60 := il_60
      have t_43331 := i32b r15_q43329
      have t_43332 := ia_div2 r15_q43329 (60 : Int32) 60 il_60 (by decide)
      refine wq_eq (fun hc_43333 => ?_) (fun hc_43334 => ?_)
      · have b_43336 := i32b y145_8
        have l_1 := il_1
        refine wq_v (fun v18_q43335 h_v18_q43335 => ?_)
        have t_v18_q43335 := congrArg Int32.toInt h_v18_q43335
        have t_43338 := ia_add y145_9 (1 : Int32) (by omega) (by omega)
        refine wq_v (fun v19_q43337 h_v19_q43337 => ?_)
        have t_v19_q43337 := congrArg Int32.toInt h_v19_q43337
        have b_43339 := i32b v18_q43335
        have tby := ia_add y145_8 (1 : Int32) (by omega) (by omega)
        exact ih I0_l145 L0_l145 M0_l145 v18_q43335 v19_q43337 ⟨by omega, by omega⟩ k_I0_l145 (ER_y hE hpl hc_43333 (by omega) (by omega)) (by omega)
      · have b_43341 := i32b y145_8
        have l_0 := il_0
        have t_43342 := ia_add y145_8 (0 : Int32) (by omega) (by omega)
        refine wq_v (fun v16_q43340 h_v16_q43340 => ?_)
        have t_v16_q43340 := congrArg Int32.toInt h_v16_q43340
        have l_1 := il_1
        have t_43344 := ia_add y145_9 (1 : Int32) (by omega) (by omega)
        refine wq_v (fun v17_q43343 h_v17_q43343 => ?_)
        have t_v17_q43343 := congrArg Int32.toInt h_v17_q43343
        have b_43345 := i32b v16_q43340
        exact ih I0_l145 L0_l145 M0_l145 v16_q43340 v17_q43343 ⟨by omega, by omega⟩ k_I0_l145 (ER_n hE hpl hc_43334 (by omega) (by omega)) (by omega)
set_option maxHeartbeats 4000000 in
theorem tt_fX12_errors_L90 {N : Nat} (hN : 3000000000 ≤ N) (x1 : Int32) (x2 : Int32) (x3 : Int32) (x4 : Int32) (g51 : (Nat → Int32) → Int64 → (Nat → Nat → Int32) → Int32 → Option (Int32 × (Nat → Int32) × Int64 × (Nat → Nat → Int32))) (h_x1 : 0 ≤ x1.toInt ∧ x1.toInt ≤ 5) (h_x2 : 0 ≤ x2.toInt ∧ x2.toInt ≤ 19) (h_x3 : 0 ≤ x3.toInt ∧ x3.toInt ≤ 1000000) (h_x4 : 0 ≤ x4.toInt ∧ x4.toInt ≤ 10)  : ∀ (fu : Nat) (I0_l90 : (Nat → Int32)) (L0_l90 : Int64) (M0_l90 : (Nat → Nat → Int32)) (y90_5 : Int32) (y90_6 : Int32), (0 ≤ y90_6.toInt ∧ y90_6.toInt ≤ 7) → (KX12 I0_l90 M0_l90) → (7 - y90_6.toInt) < (fu : Int) → wq (fX12_errors_L90 N x1 x2 x3 x4 g51 fu I0_l90 L0_l90 M0_l90 y90_5 y90_6) (fun r => KX12 r.2.1 r.2.2.2 ∧ True) := by
  intro fu
  induction fu with
  | zero => intro I0_l90 L0_l90 M0_l90 y90_5 y90_6 h_y90_6 k_I0_l90 hm; exfalso; omega
  | succ fu ih =>
    intro I0_l90 L0_l90 M0_l90 y90_5 y90_6 h_y90_6 k_I0_l90 hm
    rw [fX12_errors_L90.eq_2]
    have l_7 := il_7
    refine wq_le (fun hc_43346 => ?_) (fun hc_43347 => ?_)
    · have l_0 := il_0
      refine wq_eq (fun hc_43348 => ?_) (fun hc_43349 => ?_)
      · have b_43350 := i32b y90_5
        exact wq_s ⟨k_I0_l90, trivial⟩
      · have l_1 := il_1
        refine wq_le (fun hc_43351 => ?_) (fun hc_43352 => ?_)
        · have l_2 := il_2
          exact tt_fX12_errors_L340 hN x1 x2 x3 x4 g51 _ ⟨by omega, by omega⟩ ⟨by omega, by omega⟩ ⟨by omega, by omega⟩ ⟨by omega, by omega⟩ N I0_l90 L0_l90 M0_l90 (1 : Int32) (2 : Int32) ⟨by omega, by omega⟩ ⟨by omega, by omega⟩ k_I0_l90 (by omega)
        · have l_5 := il_5
          refine wq_le (fun hc_43353 => ?_) (fun hc_43354 => ?_)
          · have l_8 := il_8
            refine wq_le (fun hc_43355 => ?_) (fun hc_43356 => ?_)
            · have t_43357 := ia_sub x4 (7 : Int32) (by omega) (by omega)
              refine wq_in (n := 4) ⟨by omega, by omega⟩ ?_
              exact wq_s ⟨k_I0_l90, trivial⟩
            · have l_4 := il_4
              have t_43358 := ia_sub x4 (4 : Int32) (by omega) (by omega)
              refine wq_in (n := 4) ⟨by omega, by omega⟩ ?_
              exact wq_s ⟨k_I0_l90, trivial⟩
          · have t_43359 := ia_sub x4 (1 : Int32) (by omega) (by omega)
            refine wq_in (n := 4) ⟨by omega, by omega⟩ ?_
            exact wq_s ⟨k_I0_l90, trivial⟩
    · have l_20 := il_20
      have t_43360 := ia_mul (20 : Int32) (20) il_20 x1 (by omega) (by omega)
      have t_43361 := ia_add ((20 : Int32) * x1) x2 (by omega) (by omega)
      refine wq_b (tt_fX12_at hN I0_l90 L0_l90 M0_l90 (((20 : Int32) * x1) + x2) y90_6 ⟨by omega, by omega⟩ ⟨by omega, by omega⟩ k_I0_l90) (fun r4_q43362 h_r4_q43362 => ?_)
      obtain ⟨h_r4_q43362_0, h_r4_q43362_1, h_r4_q43362_2, -⟩ := h_r4_q43362
      have l_m1 := il_m1
      refine wq_eq (fun hc_43363 => ?_) (fun hc_43364 => ?_)
      · have l_1 := il_1
        have t_43366 := ia_add y90_6 (1 : Int32) (by omega) (by omega)
        refine wq_v (fun v5_q43365 h_v5_q43365 => ?_)
        have t_v5_q43365 := congrArg Int32.toInt h_v5_q43365
        have b_43367 := i32b y90_5
        exact ih I0_l90 L0_l90 M0_l90 y90_5 v5_q43365 ⟨by omega, by omega⟩ k_I0_l90 (by omega)
      · have l_0 := il_0
        refine wq_b (tt_fX12_placeOn hN I0_l90 L0_l90 M0_l90 (0 : Int32) y90_6 x3 ⟨by omega, by omega⟩ ⟨by omega, by omega⟩ k_I0_l90) (fun r6_q43368 h_r6_q43368 => ?_)
        obtain ⟨-⟩ := h_r6_q43368
        have b_43369 := i32b r6_q43368
        have l_60 := il_60
        have t_43370 := i32b r6_q43368
        have t_43371 := ia_div2 r6_q43368 (60 : Int32) 60 il_60 (by decide)
        refine wq_eq (fun hc_43372 => ?_) (fun hc_43373 => ?_)
        · have l_1 := il_1
          have t_43375 := ia_add y90_6 (1 : Int32) (by omega) (by omega)
          refine wq_v (fun v20_q43374 h_v20_q43374 => ?_)
          have t_v20_q43374 := congrArg Int32.toInt h_v20_q43374
          have b_43376 := i32b y90_5
          exact ih I0_l90 L0_l90 M0_l90 y90_5 v20_q43374 ⟨by omega, by omega⟩ k_I0_l90 (by omega)
        · have b_43378 := i32b y90_5
          have l_1 := il_1
          refine wq_v (fun v7_q43377 h_v7_q43377 => ?_)
          have t_v7_q43377 := congrArg Int32.toInt h_v7_q43377
          have b_43379 := i32b v7_q43377
          exact tt_fX12_errors_L145 hN x1 x2 x3 x4 r4_q43362 v7_q43377 y90_6 g51 _ ⟨by omega, by omega⟩ ⟨by omega, by omega⟩ ⟨by omega, by omega⟩ ⟨by omega, by omega⟩ ⟨by omega, by omega⟩ ⟨by omega, by omega⟩ (fun q0 q1 q2 q3 q4 hq0 hq1 hq2 => ih q0 q1 q2 q3 q4 hq0 hq1 (by omega)) N I0_l90 L0_l90 M0_l90 (0 : Int32) (1 : Int32) ⟨by omega, by omega⟩ k_I0_l90 ER_0 (by omega)
set_option maxHeartbeats 4000000 in
theorem tt_fX12_errors_L51 {N : Nat} (hN : 3000000000 ≤ N) (x1 : Int32) (x2 : Int32) (x3 : Int32) (x4 : Int32) (h_x1 : 0 ≤ x1.toInt ∧ x1.toInt ≤ 5) (h_x2 : 0 ≤ x2.toInt ∧ x2.toInt ≤ 19) (h_x3 : 0 ≤ x3.toInt ∧ x3.toInt ≤ 1000000) (h_x4 : 0 ≤ x4.toInt ∧ x4.toInt ≤ 10)  : ∀ (fu : Nat) (I0_l51 : (Nat → Int32)) (L0_l51 : Int64) (M0_l51 : (Nat → Nat → Int32)) (y51_6 : Int32), (1 ≤ y51_6.toInt ∧ y51_6.toInt ≤ 4) → (KX12 I0_l51 M0_l51) → (4 - y51_6.toInt) < (fu : Int) → wq (fX12_errors_L51 N x1 x2 x3 x4 fu I0_l51 L0_l51 M0_l51 y51_6) (fun r => KX12 r.2.1 r.2.2.2 ∧ True) := by
  intro fu
  induction fu with
  | zero => intro I0_l51 L0_l51 M0_l51 y51_6 h_y51_6 k_I0_l51 hm; exfalso; omega
  | succ fu ih =>
    intro I0_l51 L0_l51 M0_l51 y51_6 h_y51_6 k_I0_l51 hm
    rw [fX12_errors_L51.eq_2]
    have l_4 := il_4
    refine wq_le (fun hc_43380 => ?_) (fun hc_43381 => ?_)
    · have l_0 := il_0
      exact tt_fX12_errors_L90 hN x1 x2 x3 x4 _ ⟨by omega, by omega⟩ ⟨by omega, by omega⟩ ⟨by omega, by omega⟩ ⟨by omega, by omega⟩ N I0_l51 L0_l51 M0_l51 (0 : Int32) (0 : Int32) ⟨by omega, by omega⟩ k_I0_l51 (by omega)
    · refine wq_in (n := 4) ⟨by omega, by omega⟩ ?_
      refine wq_v (fun M0_21_q43382 h_M0_21_q43382 => ?_)
      have k_M0_21_q43382 : KX12 I0_l51 M0_21_q43382 := by rw [h_M0_21_q43382]; exact KX12.sm20 k_I0_l51
      refine wq_in (n := 4) ⟨by omega, by omega⟩ ?_
      refine wq_v (fun M0_22_q43383 h_M0_22_q43383 => ?_)
      have k_M0_22_q43383 : KX12 I0_l51 M0_22_q43383 := by rw [h_M0_22_q43383]; exact KX12.sm21 k_M0_21_q43382
      refine wq_in (n := 4) ⟨by omega, by omega⟩ ?_
      refine wq_v (fun M0_23_q43384 h_M0_23_q43384 => ?_)
      have k_M0_23_q43384 : KX12 I0_l51 M0_23_q43384 := by rw [h_M0_23_q43384]; exact KX12.sm22 k_M0_22_q43383
      have l_1 := il_1
      have t_43386 := ia_add y51_6 (1 : Int32) (by omega) (by omega)
      refine wq_v (fun v24_q43385 h_v24_q43385 => ?_)
      have t_v24_q43385 := congrArg Int32.toInt h_v24_q43385
      exact ih I0_l51 L0_l51 M0_23_q43384 v24_q43385 ⟨by omega, by omega⟩ k_M0_23_q43384 (by omega)
set_option maxHeartbeats 4000000 in
theorem tt_fX12_errors {N : Nat} (hN : 3000000000 ≤ N) (I0 : Nat → Int32) (L0 : Int64) (M0 : Nat → Nat → Int32) (x1 : Int32) (x2 : Int32) (x3 : Int32) (x4 : Int32) (k_I0 : KX12 I0 M0) : wq (fX12_errors N I0 L0 M0 x1 x2 x3 x4) (fun r => KX12 r.2.1 r.2.2.2 ∧ True) := by
  unfold fX12_errors
  have b_43387 := i32b x1
  have b_43388 := i32b x2
  refine wq_b (tt_fX12_isWheel hN I0 L0 M0 x1 x2 k_I0) (fun r25_q43389 h_r25_q43389 => ?_)
  obtain ⟨h_r25_q43389_0, h_r25_q43389_1, h_r25_q43389_2, h_r25_q43389_3, -⟩ := h_r25_q43389
  have t_43390 := KX12.i1 h_r25_q43389_3
  have t_43391 := KX12.i1 k_I0
  have l_0 := il_0
  refine wq_eq (fun hc_43392 => ?_) (fun hc_43393 => ?_)
  · exact wq_s ⟨h_r25_q43389_3, trivial⟩
  · have b_43394 := i32b x3
    have l_1000000 := il_1000000
    refine wq_b (tt_fX12_within hN x3 (0 : Int32) (1000000 : Int32)) (fun r26_q43395 h_r26_q43395 => ?_)
    obtain ⟨h_r26_q43395_0, h_r26_q43395_1, -⟩ := h_r26_q43395
    refine wq_eq (fun hc_43396 => ?_) (fun hc_43397 => ?_)
    · unfold fX12_errors_J35
      unfold fX12_errors_J36
      have l_1 := il_1
      refine wq_b (tt_fX12_right hN r25_q43389.2.1 r25_q43389.2.2.1 r25_q43389.2.2.2 (0 : Int32) (1 : Int32) ⟨by omega, by omega⟩ h_r25_q43389_3) (fun r1_q43398 h_r1_q43398 => ?_)
      obtain ⟨h_r1_q43398_0, h_r1_q43398_1, h_r1_q43398_2, h_r1_q43398_3, -⟩ := h_r1_q43398
      have t_43399 := KX12.i1 h_r1_q43398_3
      refine wq_eq (fun hc_43400 => ?_) (fun hc_43401 => ?_)
      · exact wq_s ⟨h_r1_q43398_3, trivial⟩
      · have b_43402 := i32b x4
        exact tt_fX12_errors_L51 hN x1 x2 x3 x4 ⟨by omega, by omega⟩ ⟨by omega, by omega⟩ ⟨by omega, by omega⟩ ⟨by omega, by omega⟩ N r1_q43398.2.1 r1_q43398.2.2.1 r1_q43398.2.2.2 (1 : Int32) ⟨by omega, by omega⟩ h_r1_q43398_3 (by omega)
    · have b_43403 := i32b x4
      have l_10 := il_10
      refine wq_b (tt_fX12_within hN x4 (0 : Int32) (10 : Int32)) (fun r27_q43404 h_r27_q43404 => ?_)
      obtain ⟨h_r27_q43404_0, h_r27_q43404_1, -⟩ := h_r27_q43404
      refine wq_eq (fun hc_43405 => ?_) (fun hc_43406 => ?_)
      · unfold fX12_errors_J35
        unfold fX12_errors_J36
        have l_1 := il_1
        refine wq_b (tt_fX12_right hN r25_q43389.2.1 r25_q43389.2.2.1 r25_q43389.2.2.2 (0 : Int32) (1 : Int32) ⟨by omega, by omega⟩ h_r25_q43389_3) (fun r1_q43407 h_r1_q43407 => ?_)
        obtain ⟨h_r1_q43407_0, h_r1_q43407_1, h_r1_q43407_2, h_r1_q43407_3, -⟩ := h_r1_q43407
        have t_43408 := KX12.i1 h_r1_q43407_3
        refine wq_eq (fun hc_43409 => ?_) (fun hc_43410 => ?_)
        · exact wq_s ⟨h_r1_q43407_3, trivial⟩
        · exact tt_fX12_errors_L51 hN x1 x2 x3 x4 ⟨by omega, by omega⟩ ⟨by omega, by omega⟩ ⟨by omega, by omega⟩ ⟨by omega, by omega⟩ N r1_q43407.2.1 r1_q43407.2.2.1 r1_q43407.2.2.2 (1 : Int32) ⟨by omega, by omega⟩ h_r1_q43407_3 (by omega)
      · unfold fX12_errors_J36
        have l_1 := il_1
        refine wq_b (tt_fX12_right hN r25_q43389.2.1 r25_q43389.2.2.1 r25_q43389.2.2.2 (1 : Int32) (1 : Int32) ⟨by omega, by omega⟩ h_r25_q43389_3) (fun r1_q43411 h_r1_q43411 => ?_)
        obtain ⟨h_r1_q43411_0, h_r1_q43411_1, h_r1_q43411_2, h_r1_q43411_3, -⟩ := h_r1_q43411
        have t_43412 := KX12.i1 h_r1_q43411_3
        refine wq_eq (fun hc_43413 => ?_) (fun hc_43414 => ?_)
        · exact wq_s ⟨h_r1_q43411_3, trivial⟩
        · exact tt_fX12_errors_L51 hN x1 x2 x3 x4 ⟨by omega, by omega⟩ ⟨by omega, by omega⟩ ⟨by omega, by omega⟩ ⟨by omega, by omega⟩ N r1_q43411.2.1 r1_q43411.2.2.1 r1_q43411.2.2.2 (1 : Int32) ⟨by omega, by omega⟩ h_r1_q43411_3 (by omega)
set_option maxHeartbeats 4000000 in
theorem tt_fX12_climbOf_L5 {N : Nat} (hN : 3000000000 ≤ N) (I0 : Nat → Int32) (L0 : Int64) (M0 : Nat → Nat → Int32) (x1 : Int32) (x2 : Int32) (h_x1 : 0 ≤ x1.toInt ∧ x1.toInt ≤ 6) (h_x2 : -60 ≤ x2.toInt ∧ x2.toInt ≤ 21599) (k_I0 : KX12 I0 M0)  : ∀ (fu : Nat) (y5_3 : Int32) (y5_4 : Int32), (0 ≤ y5_4.toInt ∧ y5_4.toInt ≤ 11) → (11 - y5_4.toInt) < (fu : Int) → wq (fX12_climbOf_L5 N I0 L0 M0 x1 x2 fu y5_3 y5_4) (fun r => True) := by
  intro fu
  induction fu with
  | zero => intro y5_3 y5_4 h_y5_4 hm; exfalso; omega
  | succ fu ih =>
    intro y5_3 y5_4 h_y5_4 hm
    rw [fX12_climbOf_L5.eq_2]
    have l_1800 := il_1800
    have t_43558 := ia_div2 x2 (1800 : Int32) 1800 il_1800 (by decide)
    refine wq_le (fun hc_43559 => ?_) (fun hc_43560 => ?_)
    · have l_12 := il_12
      have t_43561 := ia_mul (12 : Int32) (12) il_12 x1 (by omega) (by omega)
      have t_43562 := ia_add ((12 : Int32) * x1) (x2 / (1800 : Int32)) (by omega) (by omega)
      refine wq_in (n := 84) ⟨by omega, by omega⟩ ?_
      have b_43563 := i32b y5_3
      exact wq_s trivial
    · have l_12 := il_12
      have t_43564 := ia_mul (12 : Int32) (12) il_12 x1 (by omega) (by omega)
      have t_43565 := ia_add ((12 : Int32) * x1) y5_4 (by omega) (by omega)
      refine wq_in (n := 84) ⟨by omega, by omega⟩ ?_
      have b_43567 := i32b y5_3
      refine wq_v (fun v1_q43566 h_v1_q43566 => ?_)
      have t_v1_q43566 := congrArg Int32.toInt h_v1_q43566
      have l_1 := il_1
      have t_43569 := ia_add y5_4 (1 : Int32) (by omega) (by omega)
      refine wq_v (fun v2_q43568 h_v2_q43568 => ?_)
      have t_v2_q43568 := congrArg Int32.toInt h_v2_q43568
      have b_43570 := i32b v1_q43566
      exact ih v1_q43566 v2_q43568 ⟨by omega, by omega⟩ (by omega)
set_option maxHeartbeats 4000000 in
theorem tt_fX12_climbOf {N : Nat} (hN : 3000000000 ≤ N) (I0 : Nat → Int32) (L0 : Int64) (M0 : Nat → Nat → Int32) (x1 : Int32) (x2 : Int32) (h_x1 : 0 ≤ x1.toInt ∧ x1.toInt ≤ 6) (h_x2 : -60 ≤ x2.toInt ∧ x2.toInt ≤ 21599) (k_I0 : KX12 I0 M0) : wq (fX12_climbOf N I0 L0 M0 x1 x2) (fun r => True) := by
  unfold fX12_climbOf
  have l_0 := il_0
  exact tt_fX12_climbOf_L5 hN I0 L0 M0 x1 x2 ⟨by omega, by omega⟩ ⟨by omega, by omega⟩ k_I0 N (0 : Int32) (0 : Int32) ⟨by omega, by omega⟩ (by omega)
theorem sm_nn (f : Nat → Int32) (a : Nat) (n : Nat) (h : ∀ z : Nat, z < n → 1 ≤ (f (a + z)).toInt) : ∀ m : Nat, m ≤ n → (m : Int) ≤ sm f a m ∧ sm f a m + ((n - m : Nat) : Int) ≤ sm f a n := by
  intro m hm
  constructor
  · induction m with
    | zero => simp [sm]
    | succ m ih => have := ih (by omega); have := h m (by omega); simp only [sm]; omega
  · have key : ∀ d : Nat, m + d ≤ n → sm f a m + (d : Int) ≤ sm f a (m + d) := by
      intro d
      induction d with
      | zero => intro _; simp
      | succ d ih => intro hd; have := ih (by omega); have := h (m + d) (by omega); show _ ≤ sm f a (m + d) + (f (a + (m + d))).toInt; omega
    have := key (n - m) (by omega)
    have e : m + (n - m) = n := by omega
    rw [e] at this
    exact this
theorem tt_fX12_placeOf_L5 {N : Nat} (I0 : Nat → Int32) (L0 : Int64) (M0 : Nat → Nat → Int32) (x1 x2 : Int32) (c : Nat) (hc : c ≤ 6) (hx : x1 = nI c) (hv : RV (M0 4) c) : ∀ (fu : Nat) (s : Nat) (left : Int32), s ≤ 11 → left.toInt + 1800 * sm (M0 4) (12 * c) s < 6480000 → 12 - s < fu → wq (fX12_placeOf_L5 N I0 L0 M0 x1 x2 fu left (nI s)) (fun r => True) := by
  intro fu
  induction fu with
  | zero => intro s left h1 h2 h3; omega
  | succ fu ih =>
    intro s left h1 h2 h3
    subst hx
    have e12 : (12 : Int32) * nI c + nI s = nI (12 * c + s) := by rw [show (12 : Int32) = nI 12 from rfl, pk_mul, nI_add]
    have hr := hv.1 s (by omega)
    have l18 : (1800 : Int32).toInt = 1800 := by decide
    rw [fX12_placeOf_L5.eq_2, e12]
    have hin : ¬ (nI (12 * c + s) < 0 ∨ 84 ≤ (nI (12 * c + s)).toNatClampNeg) := wp_in (by omega) (by decide)
    rw [if_neg hin, nI_clamp (by omega)]
    rw [nI_clamp (by omega)] at hin
    have tm := ia_mul (1800 : Int32) 1800 l18 (M0 4 (12 * c + s)) (by omega) (by omega)
    refine wq_lt (fun hq => ?_) (fun hq => ?_)
    · rw [if_neg hin]
      exact wq_nz (by omega) (wq_s trivial)
    · rw [if_neg hin]
      have hs := sm_nn (M0 4) (12 * c) 12 (fun z hz => (hv.1 z hz).1)
      have ts := ia_sub left ((1800 : Int32) * M0 4 (12 * c + s)) (by omega) (by have := Int32.toInt_lt left; omega)
      refine wq_v (fun v ev => ?_)
      have tv := congrArg Int32.toInt ev
      refine wq_v (fun w ew => ?_)
      rw [ew, nI_1]
      have es : sm (M0 4) (12 * c) (s + 1) = sm (M0 4) (12 * c) s + (M0 4 (12 * c + s)).toInt := rfl
      have hsum := hv.2
      refine ih (s + 1) v ?_ (by omega) (by omega)
      rcases Nat.lt_or_ge s 11 with q | q
      · omega
      · exfalso
        have e11 : s = 11 := by omega
        subst e11
        have e2 : sm (M0 4) (12 * c) 12 = sm (M0 4) (12 * c) 11 + (M0 4 (12 * c + 11)).toInt := rfl
        omega
theorem tt_fX12_placeOf {N : Nat} (hN : 3000000000 ≤ N) (I0 : Nat → Int32) (L0 : Int64) (M0 : Nat → Nat → Int32) (x1 : Int32) (x2 : Int32) (h_x1 : 0 ≤ x1.toInt ∧ x1.toInt ≤ 6) (k_I0 : KX12 I0 M0) (hr_2 : x1.toInt < (I0 1).toInt) (hr_3 : x2.toInt < 6480000) : wq (fX12_placeOf N I0 L0 M0 x1 x2) (fun r => True) := by
  unfold fX12_placeOf
  have h0 : 0 ≤ x1.toInt := h_x1.1
  have ex : x1 = nI x1.toInt.toNat := by
    apply Int32.toInt_inj.mp
    rw [nI_toInt (by omega)]
    omega
  have hv := k_I0.er1 x1.toInt.toNat (by omega)
  exact tt_fX12_placeOf_L5 I0 L0 M0 x1 x2 x1.toInt.toNat (by omega) ex hv N 0 x2 (by omega) (by simp only [sm]; omega) (by omega)
set_option maxHeartbeats 4000000 in
theorem tt_fX12_isClimate {N : Nat} (hN : 3000000000 ≤ N) (I0 : Nat → Int32) (L0 : Int64) (M0 : Nat → Nat → Int32) (x1 : Int32) (x2 : Int32) (k_I0 : KX12 I0 M0) : wq (fX12_isClimate N I0 L0 M0 x1 x2) (fun r => (r.1.toInt = 0 ∨ (r.1.toInt = 1 ∧ 0 ≤ x1.toInt ∧ x1.toInt ≤ 6 ∧ x1.toInt < (r.2.1 1).toInt ∧ 0 ≤ x2.toInt ∧ x2.toInt ≤ 21599)) ∧ (r.2.1 1).toInt = (I0 1).toInt ∧ (0 ≤ r.1.toInt ∧ r.1.toInt ≤ 1) ∧ KX12 r.2.1 r.2.2.2 ∧ True) := by
  unfold fX12_isClimate
  have b_43685 := i32b x1
  have l_0 := il_0
  refine wq_lt (fun hc_43686 => ?_) (fun hc_43687 => ?_)
  · have l_1 := il_1
    refine wq_b (tt_fX12_right hN I0 L0 M0 (0 : Int32) (1 : Int32) ⟨by omega, by omega⟩ k_I0) (fun r1_q43688 h_r1_q43688 => ?_)
    obtain ⟨h_r1_q43688_0, h_r1_q43688_1, h_r1_q43688_2, h_r1_q43688_3, -⟩ := h_r1_q43688
    have t_43689 := KX12.i1 h_r1_q43688_3
    have t_43690 := KX12.i1 k_I0
    refine wq_bz (by omega) ?_
    have b_43691 := i32b x2
    exact wq_s ⟨(show (r1_q43688.1.toInt = 0 ∨ (r1_q43688.1.toInt = 1 ∧ 0 ≤ x1.toInt ∧ x1.toInt ≤ 6 ∧ x1.toInt < (r1_q43688.2.1 1).toInt ∧ 0 ≤ x2.toInt ∧ x2.toInt ≤ 21599)) from by omega), (show (r1_q43688.2.1 1).toInt = (I0 1).toInt from by omega), (show 0 ≤ r1_q43688.1.toInt ∧ r1_q43688.1.toInt ≤ 1 from ⟨by omega, by omega⟩), h_r1_q43688_3, trivial⟩
  · have t_43692 := KX12.i1 k_I0
    refine wq_le (fun hc_43693 => ?_) (fun hc_43694 => ?_)
    · have l_1 := il_1
      refine wq_b (tt_fX12_right hN I0 L0 M0 (0 : Int32) (1 : Int32) ⟨by omega, by omega⟩ k_I0) (fun r2_q43695 h_r2_q43695 => ?_)
      obtain ⟨h_r2_q43695_0, h_r2_q43695_1, h_r2_q43695_2, h_r2_q43695_3, -⟩ := h_r2_q43695
      have t_43696 := KX12.i1 h_r2_q43695_3
      refine wq_bz (by omega) ?_
      have b_43697 := i32b x2
      exact wq_s ⟨(show (r2_q43695.1.toInt = 0 ∨ (r2_q43695.1.toInt = 1 ∧ 0 ≤ x1.toInt ∧ x1.toInt ≤ 6 ∧ x1.toInt < (r2_q43695.2.1 1).toInt ∧ 0 ≤ x2.toInt ∧ x2.toInt ≤ 21599)) from by omega), (show (r2_q43695.2.1 1).toInt = (I0 1).toInt from by omega), (show 0 ≤ r2_q43695.1.toInt ∧ r2_q43695.1.toInt ≤ 1 from ⟨by omega, by omega⟩), h_r2_q43695_3, trivial⟩
    · have b_43698 := i32b x2
      have l_21599 := il_21599
      refine wq_b (tt_fX12_within hN x2 (0 : Int32) (21599 : Int32)) (fun r3_q43699 h_r3_q43699 => ?_)
      obtain ⟨h_r3_q43699_0, h_r3_q43699_1, -⟩ := h_r3_q43699
      refine wq_eq (fun hc_43700 => ?_) (fun hc_43701 => ?_)
      · have l_1 := il_1
        refine wq_b (tt_fX12_right hN I0 L0 M0 (0 : Int32) (1 : Int32) ⟨by omega, by omega⟩ k_I0) (fun r4_q43702 h_r4_q43702 => ?_)
        obtain ⟨h_r4_q43702_0, h_r4_q43702_1, h_r4_q43702_2, h_r4_q43702_3, -⟩ := h_r4_q43702
        have t_43703 := KX12.i1 h_r4_q43702_3
        refine wq_bz (by omega) ?_
        exact wq_s ⟨(show (r4_q43702.1.toInt = 0 ∨ (r4_q43702.1.toInt = 1 ∧ 0 ≤ x1.toInt ∧ x1.toInt ≤ 6 ∧ x1.toInt < (r4_q43702.2.1 1).toInt ∧ 0 ≤ x2.toInt ∧ x2.toInt ≤ 21599)) from by omega), (show (r4_q43702.2.1 1).toInt = (I0 1).toInt from by omega), (show 0 ≤ r4_q43702.1.toInt ∧ r4_q43702.1.toInt ≤ 1 from ⟨by omega, by omega⟩), h_r4_q43702_3, trivial⟩
      · have l_1 := il_1
        refine wq_b (tt_fX12_right hN I0 L0 M0 (1 : Int32) (1 : Int32) ⟨by omega, by omega⟩ k_I0) (fun r5_q43704 h_r5_q43704 => ?_)
        obtain ⟨h_r5_q43704_0, h_r5_q43704_1, h_r5_q43704_2, h_r5_q43704_3, -⟩ := h_r5_q43704
        have t_43705 := KX12.i1 h_r5_q43704_3
        refine wq_bz (by omega) ?_
        exact wq_s ⟨(show (r5_q43704.1.toInt = 0 ∨ (r5_q43704.1.toInt = 1 ∧ 0 ≤ x1.toInt ∧ x1.toInt ≤ 6 ∧ x1.toInt < (r5_q43704.2.1 1).toInt ∧ 0 ≤ x2.toInt ∧ x2.toInt ≤ 21599)) from by omega), (show (r5_q43704.2.1 1).toInt = (I0 1).toInt from by omega), (show 0 ≤ r5_q43704.1.toInt ∧ r5_q43704.1.toInt ≤ 1 from ⟨by omega, by omega⟩), h_r5_q43704_3, trivial⟩
set_option maxHeartbeats 4000000 in
theorem tt_fX12_climb {N : Nat} (hN : 3000000000 ≤ N) (I0 : Nat → Int32) (L0 : Int64) (M0 : Nat → Nat → Int32) (x1 : Int32) (x2 : Int32) (k_I0 : KX12 I0 M0) : wq (fX12_climb N I0 L0 M0 x1 x2) (fun r => KX12 r.2.1 r.2.2.2 ∧ True) := by
  unfold fX12_climb
  refine wq_v (fun I0_1_q43772 h_I0_1_q43772 => ?_)
  have k_I0_1_q43772 : KX12 I0_1_q43772 M0 := by rw [h_I0_1_q43772]; exact KX12.si0 k_I0
  have b_43773 := i32b x1
  have b_43774 := i32b x2
  refine wq_b (tt_fX12_isClimate hN I0_1_q43772 L0 M0 x1 x2 k_I0_1_q43772) (fun r2_q43775 h_r2_q43775 => ?_)
  obtain ⟨h_r2_q43775_0, h_r2_q43775_1, h_r2_q43775_2, h_r2_q43775_3, -⟩ := h_r2_q43775
  have t_43776 := KX12.i1 h_r2_q43775_3
  have t_43777 := KX12.i1 k_I0
  have t_43778 : (I0_1_q43772 1).toInt = (I0 1).toInt := by rw [h_I0_1_q43772]; rfl
  have l_0 := il_0
  refine wq_eq (fun hc_43779 => ?_) (fun hc_43780 => ?_)
  · exact wq_s ⟨h_r2_q43775_3, trivial⟩
  · refine wq_b (tt_fX12_climbOf hN r2_q43775.2.1 r2_q43775.2.2.1 r2_q43775.2.2.2 x1 x2 ⟨by omega, by omega⟩ ⟨by omega, by omega⟩ h_r2_q43775_3) (fun r3_q43781 h_r3_q43781 => ?_)
    obtain ⟨-⟩ := h_r3_q43781
    have b_43782 := i32b r3_q43781
    exact wq_s ⟨h_r2_q43775_3, trivial⟩
set_option maxHeartbeats 4000000 in
theorem tt_fX12_riseOf {N : Nat} (hN : 3000000000 ≤ N) (I0 : Nat → Int32) (L0 : Int64) (M0 : Nat → Nat → Int32) (x1 : Int32) (x2 : Int32) (x3 : Int32) (h_x1 : 0 ≤ x1.toInt ∧ x1.toInt ≤ 6) (h_x2 : -60 ≤ x2.toInt ∧ x2.toInt ≤ 21599) (h_x3 : 0 ≤ x3.toInt ∧ x3.toInt ≤ 359) (k_I0 : KX12 I0 M0) (hr_4 : x1.toInt < (I0 1).toInt) : wq (fX12_riseOf N I0 L0 M0 x1 x2 x3) (fun r => True) := by
  unfold fX12_riseOf
  refine wq_b (tt_fX12_climbOf hN I0 L0 M0 x1 x2 ⟨by omega, by omega⟩ ⟨by omega, by omega⟩ k_I0) (fun r1_q43819 h_r1_q43819 => ?_)
  obtain ⟨-⟩ := h_r1_q43819
  have b_43820 := i32b r1_q43819
  have l_18000 := il_18000
  have t_43821 := ia_mul (18000 : Int32) (18000) il_18000 x3 (by omega) (by omega)
  have l_6480000 := il_6480000
  have t_43822 := ia_rem2 (r1_q43819 + ((18000 : Int32) * x3)) (6480000 : Int32) 6480000 il_6480000 (by decide)
  have t_43823 := KX12.i1 k_I0
  refine wq_b (tt_fX12_placeOf hN I0 L0 M0 x1 ((r1_q43819 + ((18000 : Int32) * x3)) - (((r1_q43819 + ((18000 : Int32) * x3)) / (6480000 : Int32)) * (6480000 : Int32))) ⟨by omega, by omega⟩ k_I0 (by omega) (by omega)) (fun r2_q43824 h_r2_q43824 => ?_)
  obtain ⟨-⟩ := h_r2_q43824
  have b_43825 := i32b r2_q43824
  exact wq_s trivial
set_option maxHeartbeats 4000000 in
theorem tt_fX12_rise {N : Nat} (hN : 3000000000 ≤ N) (I0 : Nat → Int32) (L0 : Int64) (M0 : Nat → Nat → Int32) (x1 : Int32) (x2 : Int32) (x3 : Int32) (k_I0 : KX12 I0 M0) : wq (fX12_rise N I0 L0 M0 x1 x2 x3) (fun r => KX12 r.2.1 r.2.2.2 ∧ True) := by
  unfold fX12_rise
  refine wq_v (fun I0_1_q43928 h_I0_1_q43928 => ?_)
  have k_I0_1_q43928 : KX12 I0_1_q43928 M0 := by rw [h_I0_1_q43928]; exact KX12.si0 k_I0
  have b_43929 := i32b x1
  have b_43930 := i32b x2
  refine wq_b (tt_fX12_isClimate hN I0_1_q43928 L0 M0 x1 x2 k_I0_1_q43928) (fun r2_q43931 h_r2_q43931 => ?_)
  obtain ⟨h_r2_q43931_0, h_r2_q43931_1, h_r2_q43931_2, h_r2_q43931_3, -⟩ := h_r2_q43931
  have t_43932 := KX12.i1 h_r2_q43931_3
  have t_43933 := KX12.i1 k_I0
  have t_43934 : (I0_1_q43928 1).toInt = (I0 1).toInt := by rw [h_I0_1_q43928]; rfl
  have l_0 := il_0
  refine wq_eq (fun hc_43935 => ?_) (fun hc_43936 => ?_)
  · exact wq_s ⟨h_r2_q43931_3, trivial⟩
  · have b_43937 := i32b x3
    have l_359 := il_359
    refine wq_b (tt_fX12_within hN x3 (0 : Int32) (359 : Int32)) (fun r3_q43938 h_r3_q43938 => ?_)
    obtain ⟨h_r3_q43938_0, h_r3_q43938_1, -⟩ := h_r3_q43938
    have l_1 := il_1
    refine wq_b (tt_fX12_right hN r2_q43931.2.1 r2_q43931.2.2.1 r2_q43931.2.2.2 r3_q43938 (1 : Int32) ⟨by omega, by omega⟩ h_r2_q43931_3) (fun r4_q43939 h_r4_q43939 => ?_)
    obtain ⟨h_r4_q43939_0, h_r4_q43939_1, h_r4_q43939_2, h_r4_q43939_3, -⟩ := h_r4_q43939
    have t_43940 := KX12.i1 h_r4_q43939_3
    refine wq_eq (fun hc_43941 => ?_) (fun hc_43942 => ?_)
    · exact wq_s ⟨h_r4_q43939_3, trivial⟩
    · refine wq_b (tt_fX12_riseOf hN r4_q43939.2.1 r4_q43939.2.2.1 r4_q43939.2.2.2 x1 x2 x3 ⟨by omega, by omega⟩ ⟨by omega, by omega⟩ ⟨by omega, by omega⟩ h_r4_q43939_3 (by omega)) (fun r5_q43943 h_r5_q43943 => ?_)
      obtain ⟨-⟩ := h_r5_q43943
      have b_43944 := i32b r5_q43943
      exact wq_s ⟨h_r4_q43939_3, trivial⟩
set_option maxHeartbeats 4000000 in
theorem tt_fX12_middleOf {N : Nat} (hN : 3000000000 ≤ N) (I0 : Nat → Int32) (L0 : Int64) (M0 : Nat → Nat → Int32) (x1 : Int32) (x2 : Int32) (h_x1 : 0 ≤ x1.toInt ∧ x1.toInt ≤ 6) (h_x2 : -60 ≤ x2.toInt ∧ x2.toInt ≤ 21599) (k_I0 : KX12 I0 M0) (hr_3 : x1.toInt < (I0 1).toInt) : wq (fX12_middleOf N I0 L0 M0 x1 x2) (fun r => True) := by
  unfold fX12_middleOf
  refine wq_b (tt_fX12_climbOf hN I0 L0 M0 x1 x2 ⟨by omega, by omega⟩ ⟨by omega, by omega⟩ k_I0) (fun r1_q43975 h_r1_q43975 => ?_)
  obtain ⟨-⟩ := h_r1_q43975
  have l_0 := il_0
  have b_43976 := i32b r1_q43975
  have l_6480000 := il_6480000
  have l_1620000 := il_1620000
  have t_43977 := ia_rem2 ((r1_q43975 + (6480000 : Int32)) - (1620000 : Int32)) (6480000 : Int32) 6480000 il_6480000 (by decide)
  have t_43978 := KX12.i1 k_I0
  refine wq_b (tt_fX12_placeOf hN I0 L0 M0 (0 : Int32) (((r1_q43975 + (6480000 : Int32)) - (1620000 : Int32)) - ((((r1_q43975 + (6480000 : Int32)) - (1620000 : Int32)) / (6480000 : Int32)) * (6480000 : Int32))) ⟨by omega, by omega⟩ k_I0 (by omega) (by omega)) (fun r2_q43979 h_r2_q43979 => ?_)
  obtain ⟨-⟩ := h_r2_q43979
  have b_43980 := i32b r2_q43979
  exact wq_s trivial
set_option maxHeartbeats 4000000 in
theorem tt_fX12_middle {N : Nat} (hN : 3000000000 ≤ N) (I0 : Nat → Int32) (L0 : Int64) (M0 : Nat → Nat → Int32) (x1 : Int32) (x2 : Int32) (k_I0 : KX12 I0 M0) : wq (fX12_middle N I0 L0 M0 x1 x2) (fun r => KX12 r.2.1 r.2.2.2 ∧ True) := by
  unfold fX12_middle
  refine wq_v (fun I0_1_q44047 h_I0_1_q44047 => ?_)
  have k_I0_1_q44047 : KX12 I0_1_q44047 M0 := by rw [h_I0_1_q44047]; exact KX12.si0 k_I0
  have b_44048 := i32b x1
  have b_44049 := i32b x2
  refine wq_b (tt_fX12_isClimate hN I0_1_q44047 L0 M0 x1 x2 k_I0_1_q44047) (fun r2_q44050 h_r2_q44050 => ?_)
  obtain ⟨h_r2_q44050_0, h_r2_q44050_1, h_r2_q44050_2, h_r2_q44050_3, -⟩ := h_r2_q44050
  have t_44051 := KX12.i1 h_r2_q44050_3
  have t_44052 := KX12.i1 k_I0
  have t_44053 : (I0_1_q44047 1).toInt = (I0 1).toInt := by rw [h_I0_1_q44047]; rfl
  have l_0 := il_0
  refine wq_eq (fun hc_44054 => ?_) (fun hc_44055 => ?_)
  · exact wq_s ⟨h_r2_q44050_3, trivial⟩
  · refine wq_b (tt_fX12_middleOf hN r2_q44050.2.1 r2_q44050.2.2.1 r2_q44050.2.2.2 x1 x2 ⟨by omega, by omega⟩ ⟨by omega, by omega⟩ h_r2_q44050_3 (by omega)) (fun r3_q44056 h_r3_q44056 => ?_)
    obtain ⟨-⟩ := h_r3_q44056
    have b_44057 := i32b r3_q44056
    exact wq_s ⟨h_r2_q44050_3, trivial⟩
set_option maxHeartbeats 4000000 in
theorem tt_fX12_isHour {N : Nat} (hN : 3000000000 ≤ N) (I0 : Nat → Int32) (L0 : Int64) (M0 : Nat → Nat → Int32) (x1 : Int32) (x2 : Int32) (x3 : Int32) (h_x1 : 0 ≤ x1.toInt ∧ x1.toInt ≤ 119) (h_x2 : 0 ≤ x2.toInt ∧ x2.toInt ≤ 6) (h_x3 : 0 ≤ x3.toInt ∧ x3.toInt ≤ 359) (k_I0 : KX12 I0 M0) (hr_4 : x2.toInt < (I0 1).toInt) : wq (fX12_isHour N I0 L0 M0 x1 x2 x3) (fun r => (0 ≤ r.toInt ∧ r.toInt ≤ 1) ∧ True) := by
  unfold fX12_isHour
  have l_0 := il_0
  refine wq_b (tt_fX12_at hN I0 L0 M0 x1 (0 : Int32) ⟨by omega, by omega⟩ ⟨by omega, by omega⟩ k_I0) (fun r1_q44112 h_r1_q44112 => ?_)
  obtain ⟨h_r1_q44112_0, h_r1_q44112_1, h_r1_q44112_2, -⟩ := h_r1_q44112
  have l_60 := il_60
  have t_44113 := ia_mul (60 : Int32) (60) il_60 r1_q44112 (by omega) (by omega)
  have t_44114 := KX12.i1 k_I0
  refine wq_b (tt_fX12_riseOf hN I0 L0 M0 x2 ((60 : Int32) * r1_q44112) x3 ⟨by omega, by omega⟩ ⟨by omega, by omega⟩ ⟨by omega, by omega⟩ k_I0 (by omega)) (fun r2_q44115 h_r2_q44115 => ?_)
  obtain ⟨-⟩ := h_r2_q44115
  have l_7 := il_7
  refine wq_b (tt_fX12_at hN I0 L0 M0 x1 (7 : Int32) ⟨by omega, by omega⟩ ⟨by omega, by omega⟩ k_I0) (fun r3_q44116 h_r3_q44116 => ?_)
  obtain ⟨h_r3_q44116_0, h_r3_q44116_1, h_r3_q44116_2, -⟩ := h_r3_q44116
  have b_44117 := i32b r2_q44115
  have t_44118 := i32b r2_q44115
  have t_44119 := ia_div2 r2_q44115 (60 : Int32) 60 il_60 (by decide)
  refine wq_eq (fun hc_44120 => ?_) (fun hc_44121 => ?_)
  · have l_1 := il_1
    exact wq_s ⟨(show 0 ≤ (1 : Int32).toInt ∧ (1 : Int32).toInt ≤ 1 from ⟨by omega, by omega⟩), trivial⟩
  · exact wq_s ⟨(show 0 ≤ (0 : Int32).toInt ∧ (0 : Int32).toInt ≤ 1 from ⟨by omega, by omega⟩), trivial⟩
set_option maxHeartbeats 4000000 in
theorem tt_fX12_hour_L67 {N : Nat} (hN : 3000000000 ≤ N) (x1 : Int32) (x2 : Int32) (x3 : Int32) (y61_4 : Int32) (y61_5 : Int32) (h_x1 : 0 ≤ x1.toInt ∧ x1.toInt ≤ 5) (h_x2 : 0 ≤ x2.toInt ∧ x2.toInt ≤ 19) (h_y61_4 : 0 ≤ y61_4.toInt ∧ y61_4.toInt ≤ 119) (h_y61_5 : 0 ≤ y61_5.toInt ∧ y61_5.toInt ≤ 1)  : ∀ (fu : Nat) (I0_l67 : (Nat → Int32)) (L0_l67 : Int64) (M0_l67 : (Nat → Nat → Int32)) (y67_6 : Int32) (y67_7 : Int32), (0 ≤ y67_7.toInt ∧ y67_7.toInt ≤ 2520) → (KX12 I0_l67 M0_l67) → (2520 - y67_7.toInt) < (fu : Int) → wq (fX12_hour_L67 N x1 x2 x3 y61_4 y61_5 fu I0_l67 L0_l67 M0_l67 y67_6 y67_7) (fun r => KX12 r.2.1 r.2.2.2 ∧ True) := by
  intro fu
  induction fu with
  | zero => intro I0_l67 L0_l67 M0_l67 y67_6 y67_7 h_y67_7 k_I0_l67 hm; exfalso; omega
  | succ fu ih =>
    intro I0_l67 L0_l67 M0_l67 y67_6 y67_7 h_y67_7 k_I0_l67 hm
    rw [fX12_hour_L67.eq_2]
    have t_45659 := KX12.i1 k_I0_l67
    have l_360 := il_360
    have t_45660 := ia_mul (360 : Int32) (360) il_360 (I0_l67 1) (by omega) (by omega)
    refine wq_le (fun hc_45661 => ?_) (fun hc_45662 => ?_)
    · unfold fX12_hour_J127
      have b_45663 := i32b x3
      have l_m1 := il_m1
      refine wq_eq (fun hc_45664 => ?_) (fun hc_45665 => ?_)
      · have l_1 := il_1
        refine wq_b (tt_fX12_right hN I0_l67 L0_l67 M0_l67 (1 : Int32) (1 : Int32) ⟨by omega, by omega⟩ k_I0_l67) (fun r2_q45666 h_r2_q45666 => ?_)
        obtain ⟨h_r2_q45666_0, h_r2_q45666_1, h_r2_q45666_2, h_r2_q45666_3, -⟩ := h_r2_q45666
        have t_45667 := KX12.i1 h_r2_q45666_3
        have l_0 := il_0
        refine wq_eq (fun hc_45668 => ?_) (fun hc_45669 => ?_)
        · exact wq_s ⟨h_r2_q45666_3, trivial⟩
        · have b_45670 := i32b y67_6
          exact wq_s ⟨h_r2_q45666_3, trivial⟩
      · have l_0 := il_0
        have l_1 := il_1
        refine wq_b (tt_fX12_right hN I0_l67 L0_l67 M0_l67 (0 : Int32) (1 : Int32) ⟨by omega, by omega⟩ k_I0_l67) (fun r1_q45671 h_r1_q45671 => ?_)
        obtain ⟨h_r1_q45671_0, h_r1_q45671_1, h_r1_q45671_2, h_r1_q45671_3, -⟩ := h_r1_q45671
        have t_45672 := KX12.i1 h_r1_q45671_3
        refine wq_eq (fun hc_45673 => ?_) (fun hc_45674 => ?_)
        · exact wq_s ⟨h_r1_q45671_3, trivial⟩
        · have b_45675 := i32b y67_6
          exact wq_s ⟨h_r1_q45671_3, trivial⟩
    · have l_0 := il_0
      refine wq_eq (fun hc_45676 => ?_) (fun hc_45677 => ?_)
      · unfold fX12_hour_J127
        have b_45678 := i32b x3
        have l_m1 := il_m1
        refine wq_eq (fun hc_45679 => ?_) (fun hc_45680 => ?_)
        · have l_1 := il_1
          refine wq_b (tt_fX12_right hN I0_l67 L0_l67 M0_l67 (1 : Int32) (1 : Int32) ⟨by omega, by omega⟩ k_I0_l67) (fun r2_q45681 h_r2_q45681 => ?_)
          obtain ⟨h_r2_q45681_0, h_r2_q45681_1, h_r2_q45681_2, h_r2_q45681_3, -⟩ := h_r2_q45681
          have t_45682 := KX12.i1 h_r2_q45681_3
          refine wq_eq (fun hc_45683 => ?_) (fun hc_45684 => ?_)
          · exact wq_s ⟨h_r2_q45681_3, trivial⟩
          · have b_45685 := i32b y67_6
            exact wq_s ⟨h_r2_q45681_3, trivial⟩
        · have l_1 := il_1
          refine wq_b (tt_fX12_right hN I0_l67 L0_l67 M0_l67 (0 : Int32) (1 : Int32) ⟨by omega, by omega⟩ k_I0_l67) (fun r1_q45686 h_r1_q45686 => ?_)
          obtain ⟨h_r1_q45686_0, h_r1_q45686_1, h_r1_q45686_2, h_r1_q45686_3, -⟩ := h_r1_q45686
          have t_45687 := KX12.i1 h_r1_q45686_3
          refine wq_eq (fun hc_45688 => ?_) (fun hc_45689 => ?_)
          · exact wq_s ⟨h_r1_q45686_3, trivial⟩
          · have b_45690 := i32b y67_6
            exact wq_s ⟨h_r1_q45686_3, trivial⟩
      · have t_45691 := ia_div y67_7 (360 : Int32) 360 il_360 (by decide) (by omega)
        have t_45692 := ia_rem y67_7 (360 : Int32) 360 il_360 (by decide) (by omega)
        refine wq_b (tt_fX12_isHour hN I0_l67 L0_l67 M0_l67 y61_4 (y67_7 / (360 : Int32)) (y67_7 - ((y67_7 / (360 : Int32)) * (360 : Int32))) ⟨by omega, by omega⟩ ⟨by omega, by omega⟩ ⟨by omega, by omega⟩ k_I0_l67 (by omega)) (fun r3_q45693 h_r3_q45693 => ?_)
        obtain ⟨h_r3_q45693_0, -⟩ := h_r3_q45693
        refine wq_eq (fun hc_45694 => ?_) (fun hc_45695 => ?_)
        · have l_1 := il_1
          have t_45697 := ia_add y67_7 (1 : Int32) (by omega) (by omega)
          refine wq_v (fun v6_q45696 h_v6_q45696 => ?_)
          have t_v6_q45696 := congrArg Int32.toInt h_v6_q45696
          have b_45698 := i32b y67_6
          exact ih I0_l67 L0_l67 M0_l67 y67_6 v6_q45696 ⟨by omega, by omega⟩ k_I0_l67 (by omega)
        · have b_45699 := i32b y67_6
          have b_45700 := i32b x3
          refine wq_eq (fun hc_45701 => ?_) (fun hc_45702 => ?_)
          · exact wq_s ⟨k_I0_l67, trivial⟩
          · have l_1 := il_1
            refine wq_v (fun v4_q45703 h_v4_q45703 => ?_)
            have t_v4_q45703 := congrArg Int32.toInt h_v4_q45703
            have t_45705 := ia_add y67_7 (1 : Int32) (by omega) (by omega)
            refine wq_v (fun v5_q45704 h_v5_q45704 => ?_)
            have t_v5_q45704 := congrArg Int32.toInt h_v5_q45704
            have b_45706 := i32b v4_q45703
            exact ih I0_l67 L0_l67 M0_l67 v4_q45703 v5_q45704 ⟨by omega, by omega⟩ k_I0_l67 (by omega)
set_option maxHeartbeats 4000000 in
theorem tt_fX12_hour {N : Nat} (hN : 3000000000 ≤ N) (I0 : Nat → Int32) (L0 : Int64) (M0 : Nat → Nat → Int32) (x1 : Int32) (x2 : Int32) (x3 : Int32) (k_I0 : KX12 I0 M0) : wq (fX12_hour N I0 L0 M0 x1 x2 x3) (fun r => KX12 r.2.1 r.2.2.2 ∧ True) := by
  unfold fX12_hour
  have b_45707 := i32b x1
  have b_45708 := i32b x2
  refine wq_b (tt_fX12_isWheel hN I0 L0 M0 x1 x2 k_I0) (fun r7_q45709 h_r7_q45709 => ?_)
  obtain ⟨h_r7_q45709_0, h_r7_q45709_1, h_r7_q45709_2, h_r7_q45709_3, -⟩ := h_r7_q45709
  have t_45710 := KX12.i1 h_r7_q45709_3
  have t_45711 := KX12.i1 k_I0
  have l_0 := il_0
  refine wq_eq (fun hc_45712 => ?_) (fun hc_45713 => ?_)
  · exact wq_s ⟨h_r7_q45709_3, trivial⟩
  · have l_20 := il_20
    have t_45715 := ia_mul (20 : Int32) (20) il_20 x1 (by omega) (by omega)
    have t_45716 := ia_add ((20 : Int32) * x1) x2 (by omega) (by omega)
    refine wq_v (fun v8_q45714 h_v8_q45714 => ?_)
    have t_v8_q45714 := congrArg Int32.toInt h_v8_q45714
    refine wq_b (tt_fX12_at hN r7_q45709.2.1 r7_q45709.2.2.1 r7_q45709.2.2.2 v8_q45714 (0 : Int32) ⟨by omega, by omega⟩ ⟨by omega, by omega⟩ h_r7_q45709_3) (fun r9b_q45717 h_r9b_q45717 => ?_)
    obtain ⟨h_r9b_q45717_0, h_r9b_q45717_1, h_r9b_q45717_2, -⟩ := h_r9b_q45717
    have l_m1 := il_m1
    refine wq_eq (fun hc_45718 => ?_) (fun hc_45719 => ?_)
    · unfold fX12_hour_J46
      unfold fX12_hour_J47
      refine wq_eq (fun hc_45720 => ?_) (fun hc_45721 => ?_)
      · have b_45722 := i32b x3
        refine wq_eq (fun hc_45723 => ?_) (fun hc_45724 => ?_)
        · exact wq_s ⟨h_r7_q45709_3, trivial⟩
        · unfold fX12_hour_J61
          exact tt_fX12_hour_L67 hN x1 x2 x3 v8_q45714 (0 : Int32) ⟨by omega, by omega⟩ ⟨by omega, by omega⟩ ⟨by omega, by omega⟩ ⟨by omega, by omega⟩ N r7_q45709.2.1 r7_q45709.2.2.1 r7_q45709.2.2.2 (0 : Int32) (0 : Int32) ⟨by omega, by omega⟩ h_r7_q45709_3 (by omega)
      · exfalso; omega
    · have l_7 := il_7
      refine wq_b (tt_fX12_at hN r7_q45709.2.1 r7_q45709.2.2.1 r7_q45709.2.2.2 v8_q45714 (7 : Int32) ⟨by omega, by omega⟩ ⟨by omega, by omega⟩ h_r7_q45709_3) (fun r10_q45725 h_r10_q45725 => ?_)
      obtain ⟨h_r10_q45725_0, h_r10_q45725_1, h_r10_q45725_2, -⟩ := h_r10_q45725
      refine wq_eq (fun hc_45726 => ?_) (fun hc_45727 => ?_)
      · unfold fX12_hour_J46
        unfold fX12_hour_J47
        refine wq_eq (fun hc_45728 => ?_) (fun hc_45729 => ?_)
        · have b_45730 := i32b x3
          refine wq_eq (fun hc_45731 => ?_) (fun hc_45732 => ?_)
          · exact wq_s ⟨h_r7_q45709_3, trivial⟩
          · unfold fX12_hour_J61
            exact tt_fX12_hour_L67 hN x1 x2 x3 v8_q45714 (0 : Int32) ⟨by omega, by omega⟩ ⟨by omega, by omega⟩ ⟨by omega, by omega⟩ ⟨by omega, by omega⟩ N r7_q45709.2.1 r7_q45709.2.2.1 r7_q45709.2.2.2 (0 : Int32) (0 : Int32) ⟨by omega, by omega⟩ h_r7_q45709_3 (by omega)
        · exfalso; omega
      · unfold fX12_hour_J47
        have l_1 := il_1
        refine wq_eq (fun hc_45733 => ?_) (fun hc_45734 => ?_)
        · exfalso; omega
        · unfold fX12_hour_J61
          have b_45735 := i32b x3
          exact tt_fX12_hour_L67 hN x1 x2 x3 v8_q45714 (1 : Int32) ⟨by omega, by omega⟩ ⟨by omega, by omega⟩ ⟨by omega, by omega⟩ ⟨by omega, by omega⟩ N r7_q45709.2.1 r7_q45709.2.2.1 r7_q45709.2.2.2 (0 : Int32) (0 : Int32) ⟨by omega, by omega⟩ h_r7_q45709_3 (by omega)
set_option maxHeartbeats 4000000 in
theorem tt_fX12_houseAt {N : Nat} (hN : 3000000000 ≤ N) (I0 : Nat → Int32) (L0 : Int64) (M0 : Nat → Nat → Int32) (x1 : Int32) (x2 : Int32) (x3 : Int32) (x4 : Int32) (h_x1 : -1 ≤ x1.toInt ∧ x1.toInt ≤ 359) (h_x4 : 1 ≤ x4.toInt ∧ x4.toInt ≤ 12) (k_I0 : KX12 I0 M0) (hr_3 : ((0 ≤ x2.toInt ∧ x2.toInt ≤ 1) ∨ (0 ≤ x3.toInt ∧ x3.toInt < (I0 1).toInt))) : wq (fX12_houseAt N I0 L0 M0 x1 x2 x3 x4) (fun r => (-359 ≤ r.toInt ∧ r.toInt ≤ 359) ∧ True) := by
  unfold fX12_houseAt
  have b_46642 := i32b x2
  have l_0 := il_0
  refine wq_eq (fun hc_46643 => ?_) (fun hc_46644 => ?_)
  · have l_30 := il_30
    have t_46645 := ia_div2 x1 (30 : Int32) 30 il_30 (by decide)
    have t_46646 := ia_add (x1 / (30 : Int32)) x4 (by omega) (by omega)
    have l_1 := il_1
    have t_46647 := ia_sub ((x1 / (30 : Int32)) + x4) (1 : Int32) (by omega) (by omega)
    have l_12 := il_12
    have t_46648 := ia_rem (((x1 / (30 : Int32)) + x4) - (1 : Int32)) (12 : Int32) 12 il_12 (by decide) (by omega)
    have t_46649 := ia_mul (30 : Int32) (30) il_30 ((((x1 / (30 : Int32)) + x4) - (1 : Int32)) - (((((x1 / (30 : Int32)) + x4) - (1 : Int32)) / (12 : Int32)) * (12 : Int32))) (by omega) (by omega)
    exact wq_s ⟨(show -359 ≤ ((30 : Int32) * ((((x1 / (30 : Int32)) + x4) - (1 : Int32)) - (((((x1 / (30 : Int32)) + x4) - (1 : Int32)) / (12 : Int32)) * (12 : Int32)))).toInt ∧ ((30 : Int32) * ((((x1 / (30 : Int32)) + x4) - (1 : Int32)) - (((((x1 / (30 : Int32)) + x4) - (1 : Int32)) / (12 : Int32)) * (12 : Int32)))).toInt ≤ 359 from ⟨by omega, by omega⟩), trivial⟩
  · have l_1 := il_1
    refine wq_eq (fun hc_46650 => ?_) (fun hc_46651 => ?_)
    · have t_46652 := ia_sub x4 (1 : Int32) (by omega) (by omega)
      have l_30 := il_30
      have t_46653 := ia_mul (30 : Int32) (30) il_30 (x4 - (1 : Int32)) (by omega) (by omega)
      have t_46654 := ia_add x1 ((30 : Int32) * (x4 - (1 : Int32))) (by omega) (by omega)
      have l_360 := il_360
      have t_46655 := ia_rem2 (x1 + ((30 : Int32) * (x4 - (1 : Int32)))) (360 : Int32) 360 il_360 (by decide)
      exact wq_s ⟨(show -359 ≤ ((x1 + ((30 : Int32) * (x4 - (1 : Int32)))) - (((x1 + ((30 : Int32) * (x4 - (1 : Int32)))) / (360 : Int32)) * (360 : Int32))).toInt ∧ ((x1 + ((30 : Int32) * (x4 - (1 : Int32)))) - (((x1 + ((30 : Int32) * (x4 - (1 : Int32)))) / (360 : Int32)) * (360 : Int32))).toInt ≤ 359 from ⟨by omega, by omega⟩), trivial⟩
    · have b_46656 := i32b x3
      have l_60 := il_60
      have t_46657 := ia_mul (60 : Int32) (60) il_60 x1 (by omega) (by omega)
      have t_46658 := KX12.i1 k_I0
      refine wq_b (tt_fX12_middleOf hN I0 L0 M0 x3 ((60 : Int32) * x1) ⟨by omega, by omega⟩ ⟨by omega, by omega⟩ k_I0 (by omega)) (fun r1_q46659 h_r1_q46659 => ?_)
      obtain ⟨-⟩ := h_r1_q46659
      have b_46661 := i32b r1_q46659
      have t_46662 := i32b r1_q46659
      have t_46663 := ia_div2 r1_q46659 (60 : Int32) 60 il_60 (by decide)
      refine wq_v (fun v2_q46660 h_v2_q46660 => ?_)
      have t_v2_q46660 := congrArg Int32.toInt h_v2_q46660
      have t_46665 := ia_sub x1 v2_q46660 (by omega) (by omega)
      have l_360 := il_360
      have t_46666 := ia_add (x1 - v2_q46660) (360 : Int32) (by omega) (by omega)
      have t_46667 := ia_rem2 ((x1 - v2_q46660) + (360 : Int32)) (360 : Int32) 360 il_360 (by decide)
      refine wq_v (fun v3_q46664 h_v3_q46664 => ?_)
      have t_v3_q46664 := congrArg Int32.toInt h_v3_q46664
      have l_180 := il_180
      have t_46669 := ia_add v2_q46660 (180 : Int32) (by omega) (by omega)
      have t_46670 := ia_sub (v2_q46660 + (180 : Int32)) x1 (by omega) (by omega)
      have t_46671 := ia_add ((v2_q46660 + (180 : Int32)) - x1) (360 : Int32) (by omega) (by omega)
      have t_46672 := ia_rem2 (((v2_q46660 + (180 : Int32)) - x1) + (360 : Int32)) (360 : Int32) 360 il_360 (by decide)
      refine wq_v (fun v4_q46668 h_v4_q46668 => ?_)
      have t_v4_q46668 := congrArg Int32.toInt h_v4_q46668
      have bv2 : -35800000 ≤ v2_q46660.toInt ∧ v2_q46660.toInt ≤ 35800000 := ⟨by omega, by omega⟩
      have bv3 : -359 ≤ v3_q46664.toInt ∧ v3_q46664.toInt ≤ 359 := ⟨by omega, by omega⟩
      have bv4 : -359 ≤ v4_q46668.toInt ∧ v4_q46668.toInt ≤ 359 := ⟨by omega, by omega⟩
      clear t_46657 b_46661 t_46662 t_46663 t_46665 t_46666 t_46667 t_46669 t_46670 t_46671 t_46672 t_v2_q46660 t_v3_q46664 t_v4_q46668
      have l_3 := il_3
      refine wq_le (fun hc_46673 => ?_) (fun hc_46674 => ?_)
      · unfold fX12_houseAt_J110
        unfold fX12_houseAt_J112
        refine wq_eq (fun hc_46675 => ?_) (fun hc_46676 => ?_)
        · unfold fX12_houseAt_J195
          refine wq_eq (fun hc_46677 => ?_) (fun hc_46678 => ?_)
          · have t_46679 := ia_rem2 x1 (360 : Int32) 360 il_360 (by decide)
            exact wq_s ⟨(show -359 ≤ (x1 - ((x1 / (360 : Int32)) * (360 : Int32))).toInt ∧ (x1 - ((x1 / (360 : Int32)) * (360 : Int32))).toInt ≤ 359 from ⟨by omega, by omega⟩), trivial⟩
          · have t_46680 := ia_add x1 (180 : Int32) (by omega) (by omega)
            have t_46681 := ia_rem (x1 + (180 : Int32)) (360 : Int32) 360 il_360 (by decide) (by omega)
            exact wq_s ⟨(show -359 ≤ ((x1 + (180 : Int32)) - (((x1 + (180 : Int32)) / (360 : Int32)) * (360 : Int32))).toInt ∧ ((x1 + (180 : Int32)) - (((x1 + (180 : Int32)) / (360 : Int32)) * (360 : Int32))).toInt ≤ 359 from ⟨by omega, by omega⟩), trivial⟩
        · have l_10 := il_10
          refine wq_eq (fun hc_46682 => ?_) (fun hc_46683 => ?_)
          · exfalso; omega
          · have l_11 := il_11
            refine wq_eq (fun hc_46684 => ?_) (fun hc_46685 => ?_)
            · exfalso; omega
            · have l_12 := il_12
              refine wq_eq (fun hc_46686 => ?_) (fun hc_46687 => ?_)
              · exfalso; omega
              · have l_2 := il_2
                refine wq_eq (fun hc_46688 => ?_) (fun hc_46689 => ?_)
                · unfold fX12_houseAt_J195
                  refine wq_eq (fun hc_46690 => ?_) (fun hc_46691 => ?_)
                  · have t_46692 := ia_div2 v4_q46668 (3 : Int32) 3 il_3 (by decide)
                    have t_46693 := ia_add x1 (v4_q46668 / (3 : Int32)) (by omega) (by omega)
                    have t_46694 := ia_rem2 (x1 + (v4_q46668 / (3 : Int32))) (360 : Int32) 360 il_360 (by decide)
                    exact wq_s ⟨(show -359 ≤ ((x1 + (v4_q46668 / (3 : Int32))) - (((x1 + (v4_q46668 / (3 : Int32))) / (360 : Int32)) * (360 : Int32))).toInt ∧ ((x1 + (v4_q46668 / (3 : Int32))) - (((x1 + (v4_q46668 / (3 : Int32))) / (360 : Int32)) * (360 : Int32))).toInt ≤ 359 from ⟨by omega, by omega⟩), trivial⟩
                  · have t_46695 := ia_div2 v4_q46668 (3 : Int32) 3 il_3 (by decide)
                    have t_46696 := ia_add x1 (v4_q46668 / (3 : Int32)) (by omega) (by omega)
                    have t_46697 := ia_add (x1 + (v4_q46668 / (3 : Int32))) (180 : Int32) (by omega) (by omega)
                    have t_46698 := ia_rem ((x1 + (v4_q46668 / (3 : Int32))) + (180 : Int32)) (360 : Int32) 360 il_360 (by decide) (by omega)
                    exact wq_s ⟨(show -359 ≤ (((x1 + (v4_q46668 / (3 : Int32))) + (180 : Int32)) - ((((x1 + (v4_q46668 / (3 : Int32))) + (180 : Int32)) / (360 : Int32)) * (360 : Int32))).toInt ∧ (((x1 + (v4_q46668 / (3 : Int32))) + (180 : Int32)) - ((((x1 + (v4_q46668 / (3 : Int32))) + (180 : Int32)) / (360 : Int32)) * (360 : Int32))).toInt ≤ 359 from ⟨by omega, by omega⟩), trivial⟩
                · unfold fX12_houseAt_J195
                  refine wq_eq (fun hc_46699 => ?_) (fun hc_46700 => ?_)
                  · have t_46701 := ia_mul (2 : Int32) (2) il_2 v4_q46668 (by omega) (by omega)
                    have t_46702 := ia_div2 ((2 : Int32) * v4_q46668) (3 : Int32) 3 il_3 (by decide)
                    have t_46703 := ia_add x1 (((2 : Int32) * v4_q46668) / (3 : Int32)) (by omega) (by omega)
                    have t_46704 := ia_rem2 (x1 + (((2 : Int32) * v4_q46668) / (3 : Int32))) (360 : Int32) 360 il_360 (by decide)
                    exact wq_s ⟨(show -359 ≤ ((x1 + (((2 : Int32) * v4_q46668) / (3 : Int32))) - (((x1 + (((2 : Int32) * v4_q46668) / (3 : Int32))) / (360 : Int32)) * (360 : Int32))).toInt ∧ ((x1 + (((2 : Int32) * v4_q46668) / (3 : Int32))) - (((x1 + (((2 : Int32) * v4_q46668) / (3 : Int32))) / (360 : Int32)) * (360 : Int32))).toInt ≤ 359 from ⟨by omega, by omega⟩), trivial⟩
                  · have t_46705 := ia_mul (2 : Int32) (2) il_2 v4_q46668 (by omega) (by omega)
                    have t_46706 := ia_div2 ((2 : Int32) * v4_q46668) (3 : Int32) 3 il_3 (by decide)
                    have t_46707 := ia_add x1 (((2 : Int32) * v4_q46668) / (3 : Int32)) (by omega) (by omega)
                    have t_46708 := ia_add (x1 + (((2 : Int32) * v4_q46668) / (3 : Int32))) (180 : Int32) (by omega) (by omega)
                    have t_46709 := ia_rem2 ((x1 + (((2 : Int32) * v4_q46668) / (3 : Int32))) + (180 : Int32)) (360 : Int32) 360 il_360 (by decide)
                    exact wq_s ⟨(show -359 ≤ (((x1 + (((2 : Int32) * v4_q46668) / (3 : Int32))) + (180 : Int32)) - ((((x1 + (((2 : Int32) * v4_q46668) / (3 : Int32))) + (180 : Int32)) / (360 : Int32)) * (360 : Int32))).toInt ∧ (((x1 + (((2 : Int32) * v4_q46668) / (3 : Int32))) + (180 : Int32)) - ((((x1 + (((2 : Int32) * v4_q46668) / (3 : Int32))) + (180 : Int32)) / (360 : Int32)) * (360 : Int32))).toInt ≤ 359 from ⟨by omega, by omega⟩), trivial⟩
      · have l_10 := il_10
        refine wq_le (fun hc_46710 => ?_) (fun hc_46711 => ?_)
        · unfold fX12_houseAt_J110
          unfold fX12_houseAt_J112
          refine wq_eq (fun hc_46712 => ?_) (fun hc_46713 => ?_)
          · exfalso; omega
          · refine wq_eq (fun hc_46714 => ?_) (fun hc_46715 => ?_)
            · unfold fX12_houseAt_J195
              refine wq_eq (fun hc_46716 => ?_) (fun hc_46717 => ?_)
              · have t_46718 := ia_rem2 v2_q46660 (360 : Int32) 360 il_360 (by decide)
                exact wq_s ⟨(show -359 ≤ (v2_q46660 - ((v2_q46660 / (360 : Int32)) * (360 : Int32))).toInt ∧ (v2_q46660 - ((v2_q46660 / (360 : Int32)) * (360 : Int32))).toInt ≤ 359 from ⟨by omega, by omega⟩), trivial⟩
              · have t_46719 := ia_rem2 (v2_q46660 + (180 : Int32)) (360 : Int32) 360 il_360 (by decide)
                exact wq_s ⟨(show -359 ≤ ((v2_q46660 + (180 : Int32)) - (((v2_q46660 + (180 : Int32)) / (360 : Int32)) * (360 : Int32))).toInt ∧ ((v2_q46660 + (180 : Int32)) - (((v2_q46660 + (180 : Int32)) / (360 : Int32)) * (360 : Int32))).toInt ≤ 359 from ⟨by omega, by omega⟩), trivial⟩
            · have l_11 := il_11
              refine wq_eq (fun hc_46720 => ?_) (fun hc_46721 => ?_)
              · unfold fX12_houseAt_J195
                refine wq_eq (fun hc_46722 => ?_) (fun hc_46723 => ?_)
                · have t_46724 := ia_div2 v3_q46664 (3 : Int32) 3 il_3 (by decide)
                  have t_46725 := ia_add v2_q46660 (v3_q46664 / (3 : Int32)) (by omega) (by omega)
                  have t_46726 := ia_rem2 (v2_q46660 + (v3_q46664 / (3 : Int32))) (360 : Int32) 360 il_360 (by decide)
                  exact wq_s ⟨(show -359 ≤ ((v2_q46660 + (v3_q46664 / (3 : Int32))) - (((v2_q46660 + (v3_q46664 / (3 : Int32))) / (360 : Int32)) * (360 : Int32))).toInt ∧ ((v2_q46660 + (v3_q46664 / (3 : Int32))) - (((v2_q46660 + (v3_q46664 / (3 : Int32))) / (360 : Int32)) * (360 : Int32))).toInt ≤ 359 from ⟨by omega, by omega⟩), trivial⟩
                · have t_46727 := ia_div2 v3_q46664 (3 : Int32) 3 il_3 (by decide)
                  have t_46728 := ia_add v2_q46660 (v3_q46664 / (3 : Int32)) (by omega) (by omega)
                  have t_46729 := ia_add (v2_q46660 + (v3_q46664 / (3 : Int32))) (180 : Int32) (by omega) (by omega)
                  have t_46730 := ia_rem2 ((v2_q46660 + (v3_q46664 / (3 : Int32))) + (180 : Int32)) (360 : Int32) 360 il_360 (by decide)
                  exact wq_s ⟨(show -359 ≤ (((v2_q46660 + (v3_q46664 / (3 : Int32))) + (180 : Int32)) - ((((v2_q46660 + (v3_q46664 / (3 : Int32))) + (180 : Int32)) / (360 : Int32)) * (360 : Int32))).toInt ∧ (((v2_q46660 + (v3_q46664 / (3 : Int32))) + (180 : Int32)) - ((((v2_q46660 + (v3_q46664 / (3 : Int32))) + (180 : Int32)) / (360 : Int32)) * (360 : Int32))).toInt ≤ 359 from ⟨by omega, by omega⟩), trivial⟩
              · have l_12 := il_12
                refine wq_eq (fun hc_46731 => ?_) (fun hc_46732 => ?_)
                · unfold fX12_houseAt_J195
                  refine wq_eq (fun hc_46733 => ?_) (fun hc_46734 => ?_)
                  · have l_2 := il_2
                    have t_46735 := ia_mul (2 : Int32) (2) il_2 v3_q46664 (by omega) (by omega)
                    have t_46736 := ia_div2 ((2 : Int32) * v3_q46664) (3 : Int32) 3 il_3 (by decide)
                    have t_46737 := ia_add v2_q46660 (((2 : Int32) * v3_q46664) / (3 : Int32)) (by omega) (by omega)
                    have t_46738 := ia_rem2 (v2_q46660 + (((2 : Int32) * v3_q46664) / (3 : Int32))) (360 : Int32) 360 il_360 (by decide)
                    exact wq_s ⟨(show -359 ≤ ((v2_q46660 + (((2 : Int32) * v3_q46664) / (3 : Int32))) - (((v2_q46660 + (((2 : Int32) * v3_q46664) / (3 : Int32))) / (360 : Int32)) * (360 : Int32))).toInt ∧ ((v2_q46660 + (((2 : Int32) * v3_q46664) / (3 : Int32))) - (((v2_q46660 + (((2 : Int32) * v3_q46664) / (3 : Int32))) / (360 : Int32)) * (360 : Int32))).toInt ≤ 359 from ⟨by omega, by omega⟩), trivial⟩
                  · have l_2 := il_2
                    have t_46739 := ia_mul (2 : Int32) (2) il_2 v3_q46664 (by omega) (by omega)
                    have t_46740 := ia_div2 ((2 : Int32) * v3_q46664) (3 : Int32) 3 il_3 (by decide)
                    have t_46741 := ia_add v2_q46660 (((2 : Int32) * v3_q46664) / (3 : Int32)) (by omega) (by omega)
                    have t_46742 := ia_add (v2_q46660 + (((2 : Int32) * v3_q46664) / (3 : Int32))) (180 : Int32) (by omega) (by omega)
                    have t_46743 := ia_rem2 ((v2_q46660 + (((2 : Int32) * v3_q46664) / (3 : Int32))) + (180 : Int32)) (360 : Int32) 360 il_360 (by decide)
                    exact wq_s ⟨(show -359 ≤ (((v2_q46660 + (((2 : Int32) * v3_q46664) / (3 : Int32))) + (180 : Int32)) - ((((v2_q46660 + (((2 : Int32) * v3_q46664) / (3 : Int32))) + (180 : Int32)) / (360 : Int32)) * (360 : Int32))).toInt ∧ (((v2_q46660 + (((2 : Int32) * v3_q46664) / (3 : Int32))) + (180 : Int32)) - ((((v2_q46660 + (((2 : Int32) * v3_q46664) / (3 : Int32))) + (180 : Int32)) / (360 : Int32)) * (360 : Int32))).toInt ≤ 359 from ⟨by omega, by omega⟩), trivial⟩
                · exfalso; omega
        · unfold fX12_houseAt_J112
          have l_5 := il_5
          have t_46744 := ia_add x4 (5 : Int32) (by omega) (by omega)
          have l_12 := il_12
          have t_46745 := ia_rem (x4 + (5 : Int32)) (12 : Int32) 12 il_12 (by decide) (by omega)
          have t_46746 := ia_add ((x4 + (5 : Int32)) - (((x4 + (5 : Int32)) / (12 : Int32)) * (12 : Int32))) (1 : Int32) (by omega) (by omega)
          refine wq_eq (fun hc_46747 => ?_) (fun hc_46748 => ?_)
          · unfold fX12_houseAt_J195
            refine wq_eq (fun hc_46749 => ?_) (fun hc_46750 => ?_)
            · exfalso; omega
            · have t_46751 := ia_add x1 (180 : Int32) (by omega) (by omega)
              have t_46752 := ia_rem (x1 + (180 : Int32)) (360 : Int32) 360 il_360 (by decide) (by omega)
              exact wq_s ⟨(show -359 ≤ ((x1 + (180 : Int32)) - (((x1 + (180 : Int32)) / (360 : Int32)) * (360 : Int32))).toInt ∧ ((x1 + (180 : Int32)) - (((x1 + (180 : Int32)) / (360 : Int32)) * (360 : Int32))).toInt ≤ 359 from ⟨by omega, by omega⟩), trivial⟩
          · refine wq_eq (fun hc_46753 => ?_) (fun hc_46754 => ?_)
            · unfold fX12_houseAt_J195
              refine wq_eq (fun hc_46755 => ?_) (fun hc_46756 => ?_)
              · exfalso; omega
              · have t_46757 := ia_rem2 (v2_q46660 + (180 : Int32)) (360 : Int32) 360 il_360 (by decide)
                exact wq_s ⟨(show -359 ≤ ((v2_q46660 + (180 : Int32)) - (((v2_q46660 + (180 : Int32)) / (360 : Int32)) * (360 : Int32))).toInt ∧ ((v2_q46660 + (180 : Int32)) - (((v2_q46660 + (180 : Int32)) / (360 : Int32)) * (360 : Int32))).toInt ≤ 359 from ⟨by omega, by omega⟩), trivial⟩
            · have l_11 := il_11
              refine wq_eq (fun hc_46758 => ?_) (fun hc_46759 => ?_)
              · unfold fX12_houseAt_J195
                refine wq_eq (fun hc_46760 => ?_) (fun hc_46761 => ?_)
                · exfalso; omega
                · have t_46762 := ia_div2 v3_q46664 (3 : Int32) 3 il_3 (by decide)
                  have t_46763 := ia_add v2_q46660 (v3_q46664 / (3 : Int32)) (by omega) (by omega)
                  have t_46764 := ia_add (v2_q46660 + (v3_q46664 / (3 : Int32))) (180 : Int32) (by omega) (by omega)
                  have t_46765 := ia_rem2 ((v2_q46660 + (v3_q46664 / (3 : Int32))) + (180 : Int32)) (360 : Int32) 360 il_360 (by decide)
                  exact wq_s ⟨(show -359 ≤ (((v2_q46660 + (v3_q46664 / (3 : Int32))) + (180 : Int32)) - ((((v2_q46660 + (v3_q46664 / (3 : Int32))) + (180 : Int32)) / (360 : Int32)) * (360 : Int32))).toInt ∧ (((v2_q46660 + (v3_q46664 / (3 : Int32))) + (180 : Int32)) - ((((v2_q46660 + (v3_q46664 / (3 : Int32))) + (180 : Int32)) / (360 : Int32)) * (360 : Int32))).toInt ≤ 359 from ⟨by omega, by omega⟩), trivial⟩
              · refine wq_eq (fun hc_46766 => ?_) (fun hc_46767 => ?_)
                · unfold fX12_houseAt_J195
                  refine wq_eq (fun hc_46768 => ?_) (fun hc_46769 => ?_)
                  · exfalso; omega
                  · have l_2 := il_2
                    have t_46770 := ia_mul (2 : Int32) (2) il_2 v3_q46664 (by omega) (by omega)
                    have t_46771 := ia_div2 ((2 : Int32) * v3_q46664) (3 : Int32) 3 il_3 (by decide)
                    have t_46772 := ia_add v2_q46660 (((2 : Int32) * v3_q46664) / (3 : Int32)) (by omega) (by omega)
                    have t_46773 := ia_add (v2_q46660 + (((2 : Int32) * v3_q46664) / (3 : Int32))) (180 : Int32) (by omega) (by omega)
                    have t_46774 := ia_rem2 ((v2_q46660 + (((2 : Int32) * v3_q46664) / (3 : Int32))) + (180 : Int32)) (360 : Int32) 360 il_360 (by decide)
                    exact wq_s ⟨(show -359 ≤ (((v2_q46660 + (((2 : Int32) * v3_q46664) / (3 : Int32))) + (180 : Int32)) - ((((v2_q46660 + (((2 : Int32) * v3_q46664) / (3 : Int32))) + (180 : Int32)) / (360 : Int32)) * (360 : Int32))).toInt ∧ (((v2_q46660 + (((2 : Int32) * v3_q46664) / (3 : Int32))) + (180 : Int32)) - ((((v2_q46660 + (((2 : Int32) * v3_q46664) / (3 : Int32))) + (180 : Int32)) / (360 : Int32)) * (360 : Int32))).toInt ≤ 359 from ⟨by omega, by omega⟩), trivial⟩
                · have l_2 := il_2
                  refine wq_eq (fun hc_46775 => ?_) (fun hc_46776 => ?_)
                  · unfold fX12_houseAt_J195
                    refine wq_eq (fun hc_46777 => ?_) (fun hc_46778 => ?_)
                    · exfalso; omega
                    · have t_46779 := ia_div2 v4_q46668 (3 : Int32) 3 il_3 (by decide)
                      have t_46780 := ia_add x1 (v4_q46668 / (3 : Int32)) (by omega) (by omega)
                      have t_46781 := ia_add (x1 + (v4_q46668 / (3 : Int32))) (180 : Int32) (by omega) (by omega)
                      have t_46782 := ia_rem ((x1 + (v4_q46668 / (3 : Int32))) + (180 : Int32)) (360 : Int32) 360 il_360 (by decide) (by omega)
                      exact wq_s ⟨(show -359 ≤ (((x1 + (v4_q46668 / (3 : Int32))) + (180 : Int32)) - ((((x1 + (v4_q46668 / (3 : Int32))) + (180 : Int32)) / (360 : Int32)) * (360 : Int32))).toInt ∧ (((x1 + (v4_q46668 / (3 : Int32))) + (180 : Int32)) - ((((x1 + (v4_q46668 / (3 : Int32))) + (180 : Int32)) / (360 : Int32)) * (360 : Int32))).toInt ≤ 359 from ⟨by omega, by omega⟩), trivial⟩
                  · unfold fX12_houseAt_J195
                    refine wq_eq (fun hc_46783 => ?_) (fun hc_46784 => ?_)
                    · have t_46785 := ia_mul (2 : Int32) (2) il_2 v4_q46668 (by omega) (by omega)
                      have t_46786 := ia_div2 ((2 : Int32) * v4_q46668) (3 : Int32) 3 il_3 (by decide)
                      have t_46787 := ia_add x1 (((2 : Int32) * v4_q46668) / (3 : Int32)) (by omega) (by omega)
                      have t_46788 := ia_rem2 (x1 + (((2 : Int32) * v4_q46668) / (3 : Int32))) (360 : Int32) 360 il_360 (by decide)
                      exact wq_s ⟨(show -359 ≤ ((x1 + (((2 : Int32) * v4_q46668) / (3 : Int32))) - (((x1 + (((2 : Int32) * v4_q46668) / (3 : Int32))) / (360 : Int32)) * (360 : Int32))).toInt ∧ ((x1 + (((2 : Int32) * v4_q46668) / (3 : Int32))) - (((x1 + (((2 : Int32) * v4_q46668) / (3 : Int32))) / (360 : Int32)) * (360 : Int32))).toInt ≤ 359 from ⟨by omega, by omega⟩), trivial⟩
                    · have t_46789 := ia_mul (2 : Int32) (2) il_2 v4_q46668 (by omega) (by omega)
                      have t_46790 := ia_div2 ((2 : Int32) * v4_q46668) (3 : Int32) 3 il_3 (by decide)
                      have t_46791 := ia_add x1 (((2 : Int32) * v4_q46668) / (3 : Int32)) (by omega) (by omega)
                      have t_46792 := ia_add (x1 + (((2 : Int32) * v4_q46668) / (3 : Int32))) (180 : Int32) (by omega) (by omega)
                      have t_46793 := ia_rem2 ((x1 + (((2 : Int32) * v4_q46668) / (3 : Int32))) + (180 : Int32)) (360 : Int32) 360 il_360 (by decide)
                      exact wq_s ⟨(show -359 ≤ (((x1 + (((2 : Int32) * v4_q46668) / (3 : Int32))) + (180 : Int32)) - ((((x1 + (((2 : Int32) * v4_q46668) / (3 : Int32))) + (180 : Int32)) / (360 : Int32)) * (360 : Int32))).toInt ∧ (((x1 + (((2 : Int32) * v4_q46668) / (3 : Int32))) + (180 : Int32)) - ((((x1 + (((2 : Int32) * v4_q46668) / (3 : Int32))) + (180 : Int32)) / (360 : Int32)) * (360 : Int32))).toInt ≤ 359 from ⟨by omega, by omega⟩), trivial⟩
set_option maxHeartbeats 4000000 in
theorem tt_fX12_isWay {N : Nat} (hN : 3000000000 ≤ N) (I0 : Nat → Int32) (L0 : Int64) (M0 : Nat → Nat → Int32) (x1 : Int32) (x2 : Int32) (k_I0 : KX12 I0 M0) : wq (fX12_isWay N I0 L0 M0 x1 x2) (fun r => (r.1.toInt = 0 ∨ (r.1.toInt = 1 ∧ ((0 ≤ x1.toInt ∧ x1.toInt ≤ 1) ∨ (x1.toInt = 2 ∧ 0 ≤ x2.toInt ∧ x2.toInt ≤ 6 ∧ x2.toInt < (r.2.1 1).toInt)))) ∧ (r.2.1 1).toInt = (I0 1).toInt ∧ (0 ≤ r.1.toInt ∧ r.1.toInt ≤ 1) ∧ KX12 r.2.1 r.2.2.2 ∧ True) := by
  unfold fX12_isWay
  have b_46944 := i32b x1
  have l_0 := il_0
  have l_2 := il_2
  refine wq_b (tt_fX12_within hN x1 (0 : Int32) (2 : Int32)) (fun r1_q46945 h_r1_q46945 => ?_)
  obtain ⟨h_r1_q46945_0, h_r1_q46945_1, -⟩ := h_r1_q46945
  refine wq_eq (fun hc_46946 => ?_) (fun hc_46947 => ?_)
  · have l_1 := il_1
    refine wq_b (tt_fX12_right hN I0 L0 M0 (0 : Int32) (1 : Int32) ⟨by omega, by omega⟩ k_I0) (fun r2_q46948 h_r2_q46948 => ?_)
    obtain ⟨h_r2_q46948_0, h_r2_q46948_1, h_r2_q46948_2, h_r2_q46948_3, -⟩ := h_r2_q46948
    have t_46949 := KX12.i1 h_r2_q46948_3
    have t_46950 := KX12.i1 k_I0
    refine wq_bz (by omega) ?_
    have b_46951 := i32b x2
    exact wq_s ⟨(show (r2_q46948.1.toInt = 0 ∨ (r2_q46948.1.toInt = 1 ∧ ((0 ≤ x1.toInt ∧ x1.toInt ≤ 1) ∨ (x1.toInt = 2 ∧ 0 ≤ x2.toInt ∧ x2.toInt ≤ 6 ∧ x2.toInt < (r2_q46948.2.1 1).toInt)))) from by omega), (show (r2_q46948.2.1 1).toInt = (I0 1).toInt from by omega), (show 0 ≤ r2_q46948.1.toInt ∧ r2_q46948.1.toInt ≤ 1 from ⟨by omega, by omega⟩), h_r2_q46948_3, trivial⟩
  · refine wq_lt (fun hc_46952 => ?_) (fun hc_46953 => ?_)
    · have l_1 := il_1
      refine wq_b (tt_fX12_right hN I0 L0 M0 (1 : Int32) (1 : Int32) ⟨by omega, by omega⟩ k_I0) (fun r3_q46954 h_r3_q46954 => ?_)
      obtain ⟨h_r3_q46954_0, h_r3_q46954_1, h_r3_q46954_2, h_r3_q46954_3, -⟩ := h_r3_q46954
      have t_46955 := KX12.i1 h_r3_q46954_3
      have t_46956 := KX12.i1 k_I0
      refine wq_bz (by omega) ?_
      have b_46957 := i32b x2
      exact wq_s ⟨(show (r3_q46954.1.toInt = 0 ∨ (r3_q46954.1.toInt = 1 ∧ ((0 ≤ x1.toInt ∧ x1.toInt ≤ 1) ∨ (x1.toInt = 2 ∧ 0 ≤ x2.toInt ∧ x2.toInt ≤ 6 ∧ x2.toInt < (r3_q46954.2.1 1).toInt)))) from by omega), (show (r3_q46954.2.1 1).toInt = (I0 1).toInt from by omega), (show 0 ≤ r3_q46954.1.toInt ∧ r3_q46954.1.toInt ≤ 1 from ⟨by omega, by omega⟩), h_r3_q46954_3, trivial⟩
    · have b_46958 := i32b x2
      refine wq_lt (fun hc_46959 => ?_) (fun hc_46960 => ?_)
      · have l_1 := il_1
        refine wq_b (tt_fX12_right hN I0 L0 M0 (0 : Int32) (1 : Int32) ⟨by omega, by omega⟩ k_I0) (fun r4_q46961 h_r4_q46961 => ?_)
        obtain ⟨h_r4_q46961_0, h_r4_q46961_1, h_r4_q46961_2, h_r4_q46961_3, -⟩ := h_r4_q46961
        have t_46962 := KX12.i1 h_r4_q46961_3
        have t_46963 := KX12.i1 k_I0
        refine wq_bz (by omega) ?_
        exact wq_s ⟨(show (r4_q46961.1.toInt = 0 ∨ (r4_q46961.1.toInt = 1 ∧ ((0 ≤ x1.toInt ∧ x1.toInt ≤ 1) ∨ (x1.toInt = 2 ∧ 0 ≤ x2.toInt ∧ x2.toInt ≤ 6 ∧ x2.toInt < (r4_q46961.2.1 1).toInt)))) from by omega), (show (r4_q46961.2.1 1).toInt = (I0 1).toInt from by omega), (show 0 ≤ r4_q46961.1.toInt ∧ r4_q46961.1.toInt ≤ 1 from ⟨by omega, by omega⟩), h_r4_q46961_3, trivial⟩
      · have t_46964 := KX12.i1 k_I0
        refine wq_le (fun hc_46965 => ?_) (fun hc_46966 => ?_)
        · have l_1 := il_1
          refine wq_b (tt_fX12_right hN I0 L0 M0 (0 : Int32) (1 : Int32) ⟨by omega, by omega⟩ k_I0) (fun r5_q46967 h_r5_q46967 => ?_)
          obtain ⟨h_r5_q46967_0, h_r5_q46967_1, h_r5_q46967_2, h_r5_q46967_3, -⟩ := h_r5_q46967
          have t_46968 := KX12.i1 h_r5_q46967_3
          refine wq_bz (by omega) ?_
          exact wq_s ⟨(show (r5_q46967.1.toInt = 0 ∨ (r5_q46967.1.toInt = 1 ∧ ((0 ≤ x1.toInt ∧ x1.toInt ≤ 1) ∨ (x1.toInt = 2 ∧ 0 ≤ x2.toInt ∧ x2.toInt ≤ 6 ∧ x2.toInt < (r5_q46967.2.1 1).toInt)))) from by omega), (show (r5_q46967.2.1 1).toInt = (I0 1).toInt from by omega), (show 0 ≤ r5_q46967.1.toInt ∧ r5_q46967.1.toInt ≤ 1 from ⟨by omega, by omega⟩), h_r5_q46967_3, trivial⟩
        · have l_1 := il_1
          refine wq_b (tt_fX12_right hN I0 L0 M0 (1 : Int32) (1 : Int32) ⟨by omega, by omega⟩ k_I0) (fun r6_q46969 h_r6_q46969 => ?_)
          obtain ⟨h_r6_q46969_0, h_r6_q46969_1, h_r6_q46969_2, h_r6_q46969_3, -⟩ := h_r6_q46969
          have t_46970 := KX12.i1 h_r6_q46969_3
          refine wq_bz (by omega) ?_
          exact wq_s ⟨(show (r6_q46969.1.toInt = 0 ∨ (r6_q46969.1.toInt = 1 ∧ ((0 ≤ x1.toInt ∧ x1.toInt ≤ 1) ∨ (x1.toInt = 2 ∧ 0 ≤ x2.toInt ∧ x2.toInt ≤ 6 ∧ x2.toInt < (r6_q46969.2.1 1).toInt)))) from by omega), (show (r6_q46969.2.1 1).toInt = (I0 1).toInt from by omega), (show 0 ≤ r6_q46969.1.toInt ∧ r6_q46969.1.toInt ≤ 1 from ⟨by omega, by omega⟩), h_r6_q46969_3, trivial⟩
set_option maxHeartbeats 4000000 in
theorem tt_fX12_houseOf {N : Nat} (hN : 3000000000 ≤ N) (I0 : Nat → Int32) (L0 : Int64) (M0 : Nat → Nat → Int32) (x1 : Int32) (x2 : Int32) (x3 : Int32) (x4 : Int32) (k_I0 : KX12 I0 M0) : wq (fX12_houseOf N I0 L0 M0 x1 x2 x3 x4) (fun r => (-359 ≤ r.1.toInt ∧ r.1.toInt ≤ 359) ∧ KX12 r.2.1 r.2.2.2 ∧ True) := by
  unfold fX12_houseOf
  refine wq_v (fun I0_4_q47265 h_I0_4_q47265 => ?_)
  have k_I0_4_q47265 : KX12 I0_4_q47265 M0 := by rw [h_I0_4_q47265]; exact KX12.si0 k_I0
  have b_47266 := i32b x1
  have l_0 := il_0
  have l_359 := il_359
  refine wq_b (tt_fX12_within hN x1 (0 : Int32) (359 : Int32)) (fun r5_q47267 h_r5_q47267 => ?_)
  obtain ⟨h_r5_q47267_0, h_r5_q47267_1, -⟩ := h_r5_q47267
  refine wq_eq (fun hc_47268 => ?_) (fun hc_47269 => ?_)
  · unfold fX12_houseOf_J32
    unfold fX12_houseOf_J33
    have l_1 := il_1
    refine wq_b (tt_fX12_right hN I0_4_q47265 L0 M0 (0 : Int32) (1 : Int32) ⟨by omega, by omega⟩ k_I0_4_q47265) (fun r1_q47270 h_r1_q47270 => ?_)
    obtain ⟨h_r1_q47270_0, h_r1_q47270_1, h_r1_q47270_2, h_r1_q47270_3, -⟩ := h_r1_q47270
    have t_47271 := KX12.i1 h_r1_q47270_3
    have t_47272 := KX12.i1 k_I0
    have t_47273 : (I0_4_q47265 1).toInt = (I0 1).toInt := by rw [h_I0_4_q47265]; rfl
    refine wq_eq (fun hc_47274 => ?_) (fun hc_47275 => ?_)
    · exact wq_s ⟨(show -359 ≤ (0 : Int32).toInt ∧ (0 : Int32).toInt ≤ 359 from ⟨by omega, by omega⟩), h_r1_q47270_3, trivial⟩
    · have b_47276 := i32b x2
      have b_47277 := i32b x3
      refine wq_b (tt_fX12_isWay hN r1_q47270.2.1 r1_q47270.2.2.1 r1_q47270.2.2.2 x2 x3 h_r1_q47270_3) (fun r2_q47278 h_r2_q47278 => ?_)
      obtain ⟨h_r2_q47278_0, h_r2_q47278_1, h_r2_q47278_2, h_r2_q47278_3, -⟩ := h_r2_q47278
      have t_47279 := KX12.i1 h_r2_q47278_3
      refine wq_eq (fun hc_47280 => ?_) (fun hc_47281 => ?_)
      · exact wq_s ⟨(show -359 ≤ (0 : Int32).toInt ∧ (0 : Int32).toInt ≤ 359 from ⟨by omega, by omega⟩), h_r2_q47278_3, trivial⟩
      · have b_47282 := i32b x4
        refine wq_b (tt_fX12_houseAt hN r2_q47278.2.1 r2_q47278.2.2.1 r2_q47278.2.2.2 x1 x2 x3 x4 ⟨by omega, by omega⟩ ⟨by omega, by omega⟩ h_r2_q47278_3 (by omega)) (fun r3_q47283 h_r3_q47283 => ?_)
        obtain ⟨h_r3_q47283_0, -⟩ := h_r3_q47283
        exact wq_s ⟨(show -359 ≤ r3_q47283.toInt ∧ r3_q47283.toInt ≤ 359 from ⟨by omega, by omega⟩), h_r2_q47278_3, trivial⟩
  · have b_47284 := i32b x4
    have l_1 := il_1
    have l_12 := il_12
    refine wq_b (tt_fX12_within hN x4 (1 : Int32) (12 : Int32)) (fun r6_q47285 h_r6_q47285 => ?_)
    obtain ⟨h_r6_q47285_0, h_r6_q47285_1, -⟩ := h_r6_q47285
    refine wq_eq (fun hc_47286 => ?_) (fun hc_47287 => ?_)
    · unfold fX12_houseOf_J32
      unfold fX12_houseOf_J33
      refine wq_b (tt_fX12_right hN I0_4_q47265 L0 M0 (0 : Int32) (1 : Int32) ⟨by omega, by omega⟩ k_I0_4_q47265) (fun r1_q47288 h_r1_q47288 => ?_)
      obtain ⟨h_r1_q47288_0, h_r1_q47288_1, h_r1_q47288_2, h_r1_q47288_3, -⟩ := h_r1_q47288
      have t_47289 := KX12.i1 h_r1_q47288_3
      have t_47290 := KX12.i1 k_I0
      have t_47291 : (I0_4_q47265 1).toInt = (I0 1).toInt := by rw [h_I0_4_q47265]; rfl
      refine wq_eq (fun hc_47292 => ?_) (fun hc_47293 => ?_)
      · exact wq_s ⟨(show -359 ≤ (0 : Int32).toInt ∧ (0 : Int32).toInt ≤ 359 from ⟨by omega, by omega⟩), h_r1_q47288_3, trivial⟩
      · have b_47294 := i32b x2
        have b_47295 := i32b x3
        refine wq_b (tt_fX12_isWay hN r1_q47288.2.1 r1_q47288.2.2.1 r1_q47288.2.2.2 x2 x3 h_r1_q47288_3) (fun r2_q47296 h_r2_q47296 => ?_)
        obtain ⟨h_r2_q47296_0, h_r2_q47296_1, h_r2_q47296_2, h_r2_q47296_3, -⟩ := h_r2_q47296
        have t_47297 := KX12.i1 h_r2_q47296_3
        refine wq_eq (fun hc_47298 => ?_) (fun hc_47299 => ?_)
        · exact wq_s ⟨(show -359 ≤ (0 : Int32).toInt ∧ (0 : Int32).toInt ≤ 359 from ⟨by omega, by omega⟩), h_r2_q47296_3, trivial⟩
        · refine wq_b (tt_fX12_houseAt hN r2_q47296.2.1 r2_q47296.2.2.1 r2_q47296.2.2.2 x1 x2 x3 x4 ⟨by omega, by omega⟩ ⟨by omega, by omega⟩ h_r2_q47296_3 (by omega)) (fun r3_q47300 h_r3_q47300 => ?_)
          obtain ⟨h_r3_q47300_0, -⟩ := h_r3_q47300
          exact wq_s ⟨(show -359 ≤ r3_q47300.toInt ∧ r3_q47300.toInt ≤ 359 from ⟨by omega, by omega⟩), h_r2_q47296_3, trivial⟩
    · unfold fX12_houseOf_J33
      refine wq_b (tt_fX12_right hN I0_4_q47265 L0 M0 (1 : Int32) (1 : Int32) ⟨by omega, by omega⟩ k_I0_4_q47265) (fun r1_q47301 h_r1_q47301 => ?_)
      obtain ⟨h_r1_q47301_0, h_r1_q47301_1, h_r1_q47301_2, h_r1_q47301_3, -⟩ := h_r1_q47301
      have t_47302 := KX12.i1 h_r1_q47301_3
      have t_47303 := KX12.i1 k_I0
      have t_47304 : (I0_4_q47265 1).toInt = (I0 1).toInt := by rw [h_I0_4_q47265]; rfl
      refine wq_eq (fun hc_47305 => ?_) (fun hc_47306 => ?_)
      · exact wq_s ⟨(show -359 ≤ (0 : Int32).toInt ∧ (0 : Int32).toInt ≤ 359 from ⟨by omega, by omega⟩), h_r1_q47301_3, trivial⟩
      · have b_47307 := i32b x2
        have b_47308 := i32b x3
        refine wq_b (tt_fX12_isWay hN r1_q47301.2.1 r1_q47301.2.2.1 r1_q47301.2.2.2 x2 x3 h_r1_q47301_3) (fun r2_q47309 h_r2_q47309 => ?_)
        obtain ⟨h_r2_q47309_0, h_r2_q47309_1, h_r2_q47309_2, h_r2_q47309_3, -⟩ := h_r2_q47309
        have t_47310 := KX12.i1 h_r2_q47309_3
        refine wq_eq (fun hc_47311 => ?_) (fun hc_47312 => ?_)
        · exact wq_s ⟨(show -359 ≤ (0 : Int32).toInt ∧ (0 : Int32).toInt ≤ 359 from ⟨by omega, by omega⟩), h_r2_q47309_3, trivial⟩
        · refine wq_b (tt_fX12_houseAt hN r2_q47309.2.1 r2_q47309.2.2.1 r2_q47309.2.2.2 x1 x2 x3 x4 ⟨by omega, by omega⟩ ⟨by omega, by omega⟩ h_r2_q47309_3 (by omega)) (fun r3_q47313 h_r3_q47313 => ?_)
          obtain ⟨h_r3_q47313_0, -⟩ := h_r3_q47313
          exact wq_s ⟨(show -359 ≤ r3_q47313.toInt ∧ r3_q47313.toInt ≤ 359 from ⟨by omega, by omega⟩), h_r2_q47309_3, trivial⟩

set_option maxHeartbeats 4000000 in
theorem tt_fX12_seek {N : Nat} (hN : 3000000000 ≤ N) (I0 : Nat → Int32) (L0 : Int64) (M0 : Nat → Nat → Int32) (x1 : Int32) (x2 : Int32) (x3 : Int32) (x4 : Int32) (k_I0 : KX12 I0 M0) : wq (fX12_seek N I0 L0 M0 x1 x2 x3 x4) (fun r => KX12 r.1 r.2.2 ∧ True) := by
  unfold fX12_seek
  have b_31417 := i32b x1
  have b_31418 := i32b x2
  refine wq_b (tt_fX12_isWheel hN I0 L0 M0 x1 x2 k_I0) (fun r10_q31419 h_r10_q31419 => ?_)
  obtain ⟨h_r10_q31419_0, h_r10_q31419_1, h_r10_q31419_2, h_r10_q31419_3, -⟩ := h_r10_q31419
  have t_31420 := KX12.i1 h_r10_q31419_3
  have t_31421 := KX12.i1 k_I0
  have l_0 := il_0
  refine wq_eq (fun hc_31422 => ?_) (fun hc_31423 => ?_)
  · exact wq_s ⟨h_r10_q31419_3, trivial⟩
  · have b_31424 := i32b x3
    have l_3 := il_3
    refine wq_b (tt_fX12_within hN x3 (0 : Int32) (3 : Int32)) (fun r11_q31425 h_r11_q31425 => ?_)
    obtain ⟨h_r11_q31425_0, h_r11_q31425_1, -⟩ := h_r11_q31425
    refine wq_eq (fun hc_31426 => ?_) (fun hc_31427 => ?_)
    · unfold fX12_seek_J34
      unfold fX12_seek_J35
      have l_1 := il_1
      refine wq_b (tt_fX12_right hN r10_q31419.2.1 r10_q31419.2.2.1 r10_q31419.2.2.2 (0 : Int32) (1 : Int32) ⟨by omega, by omega⟩ h_r10_q31419_3) (fun r1_q31428 h_r1_q31428 => ?_)
      obtain ⟨h_r1_q31428_0, h_r1_q31428_1, h_r1_q31428_2, h_r1_q31428_3, -⟩ := h_r1_q31428
      have t_31429 := KX12.i1 h_r1_q31428_3
      refine wq_eq (fun hc_31430 => ?_) (fun hc_31431 => ?_)
      · exact wq_s ⟨h_r1_q31428_3, trivial⟩
      · refine wq_v (fun I0_2_q31432 h_I0_2_q31432 => ?_)
        have k_I0_2_q31432 : KX12 I0_2_q31432 r1_q31428.2.2.2 := by rw [h_I0_2_q31432]; exact KX12.si16 h_r1_q31428_3 ⟨by omega, by omega⟩
        refine wq_in (n := 7) ⟨by omega, by omega⟩ ?_
        refine wq_v (fun M0_3_q31433 h_M0_3_q31433 => ?_)
        have l_20 := il_20
        have t_31434 := ia_mul (20 : Int32) (20) il_20 x1 (by omega) (by omega)
        have t_31435 := ia_add ((20 : Int32) * x1) x2 (by omega) (by omega)
        have k_M0_3_q31433 : KX12 I0_2_q31432 M0_3_q31433 := by rw [h_M0_3_q31433]; exact KX12.sm18 k_I0_2_q31432 (SR.um (KX12.ese k_I0_2_q31432) (fun _ => ⟨by omega, by omega⟩) (fun q => absurd q (by decide)) (fun q => absurd q (by decide)))
        refine wq_in (n := 7) ⟨by omega, by omega⟩ ?_
        refine wq_v (fun M0_4_q31436 h_M0_4_q31436 => ?_)
        have k_M0_4_q31436 : KX12 I0_2_q31432 M0_4_q31436 := by rw [h_M0_4_q31436]; exact KX12.sm18 k_M0_3_q31433 (SR.um (KX12.ese k_M0_3_q31433) (fun q => absurd q (by decide)) (fun _ => ⟨by omega, by omega⟩) (fun q => absurd q (by decide)))
        have l_2 := il_2
        refine wq_in (n := 7) ⟨by omega, by omega⟩ ?_
        refine wq_v (fun M0_5_q31437 h_M0_5_q31437 => ?_)
        have b_31438 := i32b x4
        have k_M0_5_q31437 : KX12 I0_2_q31432 M0_5_q31437 := by rw [h_M0_5_q31437]; exact KX12.sm18 k_M0_4_q31436 (SR.um (KX12.ese k_M0_4_q31436) (fun q => absurd q (by decide)) (fun q => absurd q (by decide)) (fun _ => ⟨by omega, by omega⟩))
        refine wq_in (n := 7) ⟨by omega, by omega⟩ ?_
        refine wq_v (fun M0_6_q31439 h_M0_6_q31439 => ?_)
        have k_M0_6_q31439 : KX12 I0_2_q31432 M0_6_q31439 := by rw [h_M0_6_q31439]; exact KX12.sm18 k_M0_5_q31437 (SR.um (KX12.ese k_M0_5_q31437) (fun q => absurd q (by decide)) (fun q => absurd q (by decide)) (fun q => absurd q (by decide)))
        have l_4 := il_4
        refine wq_in (n := 7) ⟨by omega, by omega⟩ ?_
        refine wq_v (fun M0_7_q31440 h_M0_7_q31440 => ?_)
        have k_M0_7_q31440 : KX12 I0_2_q31432 M0_7_q31440 := by rw [h_M0_7_q31440]; exact KX12.sm18 k_M0_6_q31439 (SR.um (KX12.ese k_M0_6_q31439) (fun q => absurd q (by decide)) (fun q => absurd q (by decide)) (fun q => absurd q (by decide)))
        have l_5 := il_5
        refine wq_in (n := 7) ⟨by omega, by omega⟩ ?_
        refine wq_v (fun M0_8_q31441 h_M0_8_q31441 => ?_)
        have k_M0_8_q31441 : KX12 I0_2_q31432 M0_8_q31441 := by rw [h_M0_8_q31441]; exact KX12.sm18 k_M0_7_q31440 (SR.um (KX12.ese k_M0_7_q31440) (fun q => absurd q (by decide)) (fun q => absurd q (by decide)) (fun q => absurd q (by decide)))
        have l_6 := il_6
        refine wq_in (n := 7) ⟨by omega, by omega⟩ ?_
        refine wq_v (fun M0_9_q31442 h_M0_9_q31442 => ?_)
        have k_M0_9_q31442 : KX12 I0_2_q31432 M0_9_q31442 := by rw [h_M0_9_q31442]; exact KX12.sm18 k_M0_8_q31441 (SR.um (KX12.ese k_M0_8_q31441) (fun q => absurd q (by decide)) (fun q => absurd q (by decide)) (fun q => absurd q (by decide)))
        exact wq_s ⟨k_M0_9_q31442, trivial⟩
    · have b_31443 := i32b x4
      have l_1000000 := il_1000000
      refine wq_b (tt_fX12_within hN x4 (0 : Int32) (1000000 : Int32)) (fun r12_q31444 h_r12_q31444 => ?_)
      obtain ⟨h_r12_q31444_0, h_r12_q31444_1, -⟩ := h_r12_q31444
      refine wq_eq (fun hc_31445 => ?_) (fun hc_31446 => ?_)
      · unfold fX12_seek_J34
        unfold fX12_seek_J35
        have l_1 := il_1
        refine wq_b (tt_fX12_right hN r10_q31419.2.1 r10_q31419.2.2.1 r10_q31419.2.2.2 (0 : Int32) (1 : Int32) ⟨by omega, by omega⟩ h_r10_q31419_3) (fun r1_q31447 h_r1_q31447 => ?_)
        obtain ⟨h_r1_q31447_0, h_r1_q31447_1, h_r1_q31447_2, h_r1_q31447_3, -⟩ := h_r1_q31447
        have t_31448 := KX12.i1 h_r1_q31447_3
        refine wq_eq (fun hc_31449 => ?_) (fun hc_31450 => ?_)
        · exact wq_s ⟨h_r1_q31447_3, trivial⟩
        · refine wq_v (fun I0_2_q31451 h_I0_2_q31451 => ?_)
          have k_I0_2_q31451 : KX12 I0_2_q31451 r1_q31447.2.2.2 := by rw [h_I0_2_q31451]; exact KX12.si16 h_r1_q31447_3 ⟨by omega, by omega⟩
          refine wq_in (n := 7) ⟨by omega, by omega⟩ ?_
          refine wq_v (fun M0_3_q31452 h_M0_3_q31452 => ?_)
          have l_20 := il_20
          have t_31453 := ia_mul (20 : Int32) (20) il_20 x1 (by omega) (by omega)
          have t_31454 := ia_add ((20 : Int32) * x1) x2 (by omega) (by omega)
          have k_M0_3_q31452 : KX12 I0_2_q31451 M0_3_q31452 := by rw [h_M0_3_q31452]; exact KX12.sm18 k_I0_2_q31451 (SR.um (KX12.ese k_I0_2_q31451) (fun _ => ⟨by omega, by omega⟩) (fun q => absurd q (by decide)) (fun q => absurd q (by decide)))
          refine wq_in (n := 7) ⟨by omega, by omega⟩ ?_
          refine wq_v (fun M0_4_q31455 h_M0_4_q31455 => ?_)
          have k_M0_4_q31455 : KX12 I0_2_q31451 M0_4_q31455 := by rw [h_M0_4_q31455]; exact KX12.sm18 k_M0_3_q31452 (SR.um (KX12.ese k_M0_3_q31452) (fun q => absurd q (by decide)) (fun _ => ⟨by omega, by omega⟩) (fun q => absurd q (by decide)))
          have l_2 := il_2
          refine wq_in (n := 7) ⟨by omega, by omega⟩ ?_
          refine wq_v (fun M0_5_q31456 h_M0_5_q31456 => ?_)
          have k_M0_5_q31456 : KX12 I0_2_q31451 M0_5_q31456 := by rw [h_M0_5_q31456]; exact KX12.sm18 k_M0_4_q31455 (SR.um (KX12.ese k_M0_4_q31455) (fun q => absurd q (by decide)) (fun q => absurd q (by decide)) (fun _ => ⟨by omega, by omega⟩))
          refine wq_in (n := 7) ⟨by omega, by omega⟩ ?_
          refine wq_v (fun M0_6_q31457 h_M0_6_q31457 => ?_)
          have k_M0_6_q31457 : KX12 I0_2_q31451 M0_6_q31457 := by rw [h_M0_6_q31457]; exact KX12.sm18 k_M0_5_q31456 (SR.um (KX12.ese k_M0_5_q31456) (fun q => absurd q (by decide)) (fun q => absurd q (by decide)) (fun q => absurd q (by decide)))
          have l_4 := il_4
          refine wq_in (n := 7) ⟨by omega, by omega⟩ ?_
          refine wq_v (fun M0_7_q31458 h_M0_7_q31458 => ?_)
          have k_M0_7_q31458 : KX12 I0_2_q31451 M0_7_q31458 := by rw [h_M0_7_q31458]; exact KX12.sm18 k_M0_6_q31457 (SR.um (KX12.ese k_M0_6_q31457) (fun q => absurd q (by decide)) (fun q => absurd q (by decide)) (fun q => absurd q (by decide)))
          have l_5 := il_5
          refine wq_in (n := 7) ⟨by omega, by omega⟩ ?_
          refine wq_v (fun M0_8_q31459 h_M0_8_q31459 => ?_)
          have k_M0_8_q31459 : KX12 I0_2_q31451 M0_8_q31459 := by rw [h_M0_8_q31459]; exact KX12.sm18 k_M0_7_q31458 (SR.um (KX12.ese k_M0_7_q31458) (fun q => absurd q (by decide)) (fun q => absurd q (by decide)) (fun q => absurd q (by decide)))
          have l_6 := il_6
          refine wq_in (n := 7) ⟨by omega, by omega⟩ ?_
          refine wq_v (fun M0_9_q31460 h_M0_9_q31460 => ?_)
          have k_M0_9_q31460 : KX12 I0_2_q31451 M0_9_q31460 := by rw [h_M0_9_q31460]; exact KX12.sm18 k_M0_8_q31459 (SR.um (KX12.ese k_M0_8_q31459) (fun q => absurd q (by decide)) (fun q => absurd q (by decide)) (fun q => absurd q (by decide)))
          exact wq_s ⟨k_M0_9_q31460, trivial⟩
      · unfold fX12_seek_J35
        have l_1 := il_1
        refine wq_b (tt_fX12_right hN r10_q31419.2.1 r10_q31419.2.2.1 r10_q31419.2.2.2 (1 : Int32) (1 : Int32) ⟨by omega, by omega⟩ h_r10_q31419_3) (fun r1_q31461 h_r1_q31461 => ?_)
        obtain ⟨h_r1_q31461_0, h_r1_q31461_1, h_r1_q31461_2, h_r1_q31461_3, -⟩ := h_r1_q31461
        have t_31462 := KX12.i1 h_r1_q31461_3
        refine wq_eq (fun hc_31463 => ?_) (fun hc_31464 => ?_)
        · exact wq_s ⟨h_r1_q31461_3, trivial⟩
        · refine wq_v (fun I0_2_q31465 h_I0_2_q31465 => ?_)
          have k_I0_2_q31465 : KX12 I0_2_q31465 r1_q31461.2.2.2 := by rw [h_I0_2_q31465]; exact KX12.si16 h_r1_q31461_3 ⟨by omega, by omega⟩
          refine wq_in (n := 7) ⟨by omega, by omega⟩ ?_
          refine wq_v (fun M0_3_q31466 h_M0_3_q31466 => ?_)
          have l_20 := il_20
          have t_31467 := ia_mul (20 : Int32) (20) il_20 x1 (by omega) (by omega)
          have t_31468 := ia_add ((20 : Int32) * x1) x2 (by omega) (by omega)
          have k_M0_3_q31466 : KX12 I0_2_q31465 M0_3_q31466 := by rw [h_M0_3_q31466]; exact KX12.sm18 k_I0_2_q31465 (SR.um (KX12.ese k_I0_2_q31465) (fun _ => ⟨by omega, by omega⟩) (fun q => absurd q (by decide)) (fun q => absurd q (by decide)))
          refine wq_in (n := 7) ⟨by omega, by omega⟩ ?_
          refine wq_v (fun M0_4_q31469 h_M0_4_q31469 => ?_)
          have k_M0_4_q31469 : KX12 I0_2_q31465 M0_4_q31469 := by rw [h_M0_4_q31469]; exact KX12.sm18 k_M0_3_q31466 (SR.um (KX12.ese k_M0_3_q31466) (fun q => absurd q (by decide)) (fun _ => ⟨by omega, by omega⟩) (fun q => absurd q (by decide)))
          have l_2 := il_2
          refine wq_in (n := 7) ⟨by omega, by omega⟩ ?_
          refine wq_v (fun M0_5_q31470 h_M0_5_q31470 => ?_)
          have k_M0_5_q31470 : KX12 I0_2_q31465 M0_5_q31470 := by rw [h_M0_5_q31470]; exact KX12.sm18 k_M0_4_q31469 (SR.um (KX12.ese k_M0_4_q31469) (fun q => absurd q (by decide)) (fun q => absurd q (by decide)) (fun _ => ⟨by omega, by omega⟩))
          refine wq_in (n := 7) ⟨by omega, by omega⟩ ?_
          refine wq_v (fun M0_6_q31471 h_M0_6_q31471 => ?_)
          have k_M0_6_q31471 : KX12 I0_2_q31465 M0_6_q31471 := by rw [h_M0_6_q31471]; exact KX12.sm18 k_M0_5_q31470 (SR.um (KX12.ese k_M0_5_q31470) (fun q => absurd q (by decide)) (fun q => absurd q (by decide)) (fun q => absurd q (by decide)))
          have l_4 := il_4
          refine wq_in (n := 7) ⟨by omega, by omega⟩ ?_
          refine wq_v (fun M0_7_q31472 h_M0_7_q31472 => ?_)
          have k_M0_7_q31472 : KX12 I0_2_q31465 M0_7_q31472 := by rw [h_M0_7_q31472]; exact KX12.sm18 k_M0_6_q31471 (SR.um (KX12.ese k_M0_6_q31471) (fun q => absurd q (by decide)) (fun q => absurd q (by decide)) (fun q => absurd q (by decide)))
          have l_5 := il_5
          refine wq_in (n := 7) ⟨by omega, by omega⟩ ?_
          refine wq_v (fun M0_8_q31473 h_M0_8_q31473 => ?_)
          have k_M0_8_q31473 : KX12 I0_2_q31465 M0_8_q31473 := by rw [h_M0_8_q31473]; exact KX12.sm18 k_M0_7_q31472 (SR.um (KX12.ese k_M0_7_q31472) (fun q => absurd q (by decide)) (fun q => absurd q (by decide)) (fun q => absurd q (by decide)))
          have l_6 := il_6
          refine wq_in (n := 7) ⟨by omega, by omega⟩ ?_
          refine wq_v (fun M0_9_q31474 h_M0_9_q31474 => ?_)
          have k_M0_9_q31474 : KX12 I0_2_q31465 M0_9_q31474 := by rw [h_M0_9_q31474]; exact KX12.sm18 k_M0_8_q31473 (SR.um (KX12.ese k_M0_8_q31473) (fun q => absurd q (by decide)) (fun q => absurd q (by decide)) (fun q => absurd q (by decide)))
          exact wq_s ⟨k_M0_9_q31474, trivial⟩
set_option maxHeartbeats 4000000 in
theorem tt_fX12_on_L37 {N : Nat} (hN : 3000000000 ≤ N) (x1 : Int32) (h_x1 : 0 ≤ x1.toInt ∧ x1.toInt ≤ 50000)  : ∀ (fu : Nat) (I0_l37 : (Nat → Int32)) (L0_l37 : Int64) (M0_l37 : (Nat → Nat → Int32)) (y37_2 : Int32), (0 ≤ y37_2.toInt ∧ y37_2.toInt ≤ 50000) → (KX12 I0_l37 M0_l37) → (50000 - y37_2.toInt) < (fu : Int) → wq (fX12_on_L37 N x1 fu I0_l37 L0_l37 M0_l37 y37_2) (fun r => (0 ≤ r.1.toInt ∧ r.1.toInt ≤ 50000) ∧ KX12 r.2.1 r.2.2.2 ∧ True) := by
  intro fu
  induction fu with
  | zero => intro I0_l37 L0_l37 M0_l37 y37_2 h_y37_2 k_I0_l37 hm; exfalso; omega
  | succ fu ih =>
    intro I0_l37 L0_l37 M0_l37 y37_2 h_y37_2 k_I0_l37 hm
    rw [fX12_on_L37.eq_2]
    refine wq_le (fun hc_33761 => ?_) (fun hc_33762 => ?_)
    · exact wq_s ⟨(show 0 ≤ y37_2.toInt ∧ y37_2.toInt ≤ 50000 from ⟨by omega, by omega⟩), k_I0_l37, trivial⟩
    · have l_2 := il_2
      refine wq_in (n := 7) ⟨by omega, by omega⟩ ?_
      have l_1000000 := il_1000000
      have t_33763 : 0 ≤ (M0_l37 18 (2 : Int32).toNatClampNeg).toInt ∧ (M0_l37 18 (2 : Int32).toNatClampNeg).toInt ≤ 1000001 := (KX12.ese k_I0_l37).2.2
      refine wq_lt (fun hc_33764 => ?_) (fun hc_33765 => ?_)
      · exact wq_s ⟨(show 0 ≤ y37_2.toInt ∧ y37_2.toInt ≤ 50000 from ⟨by omega, by omega⟩), k_I0_l37, trivial⟩
      · refine wq_in (n := 7) ⟨by omega, by omega⟩ ?_
        refine wq_v (fun v13_q33766 h_v13_q33766 => ?_)
        have t_v13_q33766 := congrArg Int32.toInt h_v13_q33766
        have l_0 := il_0
        refine wq_in (n := 7) ⟨by omega, by omega⟩ ?_
        have l_1 := il_1
        refine wq_in (n := 7) ⟨by omega, by omega⟩ ?_
        have l_3 := il_3
        refine wq_in (n := 7) ⟨by omega, by omega⟩ ?_
        have l_m1 := il_m1
        refine wq_eq (fun hc_33767 => ?_) (fun hc_33768 => ?_)
        · unfold fX12_on_J96
          have t_33769 : 0 ≤ (M0_l37 18 (0 : Int32).toNatClampNeg).toInt ∧ (M0_l37 18 (0 : Int32).toNatClampNeg).toInt ≤ 119 := (KX12.ese k_I0_l37).1
          have t_33770 : 0 ≤ (M0_l37 18 (1 : Int32).toNatClampNeg).toInt ∧ (M0_l37 18 (1 : Int32).toNatClampNeg).toInt ≤ 3 := (KX12.ese k_I0_l37).2.1
          have l_999 := il_999
          refine wq_b (tt_fX12_costOn hN I0_l37 L0_l37 M0_l37 (M0_l37 18 (0 : Int32).toNatClampNeg) (M0_l37 18 (1 : Int32).toNatClampNeg) v13_q33766 (999 : Int32) ⟨by omega, by omega⟩ ⟨by omega, by omega⟩ k_I0_l37) (fun r12_q33771 h_r12_q33771 => ?_)
          obtain ⟨h_r12_q33771_0, -⟩ := h_r12_q33771
          refine wq_in (n := 7) ⟨by omega, by omega⟩ ?_
          refine wq_eq (fun hc_33772 => ?_) (fun hc_33773 => ?_)
          · unfold fX12_on_J122
            refine wq_in (n := 7) ⟨by omega, by omega⟩ ?_
            refine wq_v (fun M0_9_q33774 h_M0_9_q33774 => ?_)
            have k_M0_9_q33774 : KX12 I0_l37 M0_9_q33774 := by rw [h_M0_9_q33774]; exact KX12.sm18 k_I0_l37 (SR.um (KX12.ese k_I0_l37) (fun q => absurd q (by decide)) (fun q => absurd q (by decide)) (fun q => absurd q (by decide)))
            have l_4 := il_4
            refine wq_in (n := 7) ⟨by omega, by omega⟩ ?_
            refine wq_v (fun M0_10_q33775 h_M0_10_q33775 => ?_)
            have k_M0_10_q33775 : KX12 I0_l37 M0_10_q33775 := by rw [h_M0_10_q33775]; exact KX12.sm18 k_M0_9_q33774 (SR.um (KX12.ese k_M0_9_q33774) (fun q => absurd q (by decide)) (fun q => absurd q (by decide)) (fun q => absurd q (by decide)))
            have l_5 := il_5
            refine wq_in (n := 7) ⟨by omega, by omega⟩ ?_
            refine wq_v (fun M0_11_q33776 h_M0_11_q33776 => ?_)
            have k_M0_11_q33776 : KX12 I0_l37 M0_11_q33776 := by rw [h_M0_11_q33776]; exact KX12.sm18 k_M0_10_q33775 (SR.um (KX12.ese k_M0_10_q33775) (fun q => absurd q (by decide)) (fun q => absurd q (by decide)) (fun q => absurd q (by decide)))
            unfold fX12_on_J144
            refine wq_in (n := 7) ⟨by omega, by omega⟩ ?_
            have t_33777 : (M0_9_q33774 18 (3 : Int32).toNatClampNeg).toInt = r12_q33771.toInt := by rw [h_M0_9_q33774]; rfl
            have t_33778 : (M0_10_q33775 18 (3 : Int32).toNatClampNeg).toInt = (M0_9_q33774 18 (3 : Int32).toNatClampNeg).toInt := by rw [h_M0_10_q33775]; rfl
            have t_33779 : (M0_11_q33776 18 (3 : Int32).toNatClampNeg).toInt = (M0_10_q33775 18 (3 : Int32).toNatClampNeg).toInt := by rw [h_M0_11_q33776]; rfl
            refine wq_eq (fun hc_33780 => ?_) (fun hc_33781 => ?_)
            · refine wq_in (n := 7) ⟨by omega, by omega⟩ ?_
              refine wq_in (n := 7) ⟨by omega, by omega⟩ ?_
              refine wq_v (fun M0_7_q33782 h_M0_7_q33782 => ?_)
              have k_M0_7_q33782 : KX12 I0_l37 M0_7_q33782 := by rw [h_M0_7_q33782]; exact KX12.sm18 k_M0_11_q33776 (SR.um (KX12.ese k_M0_11_q33776) (fun q => absurd q (by decide)) (fun q => absurd q (by decide)) (fun q => absurd q (by decide)))
              have l_6 := il_6
              refine wq_in (n := 7) ⟨by omega, by omega⟩ ?_
              refine wq_v (fun M0_8_q33783 h_M0_8_q33783 => ?_)
              have k_M0_8_q33783 : KX12 I0_l37 M0_8_q33783 := by rw [h_M0_8_q33783]; exact KX12.sm18 k_M0_7_q33782 (SR.um (KX12.ese k_M0_7_q33782) (fun q => absurd q (by decide)) (fun q => absurd q (by decide)) (fun q => absurd q (by decide)))
              unfold fX12_on_J173
              refine wq_in (n := 7) ⟨by omega, by omega⟩ ?_
              refine wq_in (n := 7) ⟨by omega, by omega⟩ ?_
              refine wq_v (fun M0_5_q33784 h_M0_5_q33784 => ?_)
              have t_33785 : (M0_9_q33774 18 (2 : Int32).toNatClampNeg).toInt = (M0_l37 18 (2 : Int32).toNatClampNeg).toInt := by rw [h_M0_9_q33774]; rfl
              have t_33786 : (M0_10_q33775 18 (2 : Int32).toNatClampNeg).toInt = (M0_9_q33774 18 (2 : Int32).toNatClampNeg).toInt := by rw [h_M0_10_q33775]; rfl
              have t_33787 : (M0_11_q33776 18 (2 : Int32).toNatClampNeg).toInt = (M0_10_q33775 18 (2 : Int32).toNatClampNeg).toInt := by rw [h_M0_11_q33776]; rfl
              have t_33788 : (M0_7_q33782 18 (2 : Int32).toNatClampNeg).toInt = (M0_11_q33776 18 (2 : Int32).toNatClampNeg).toInt := by rw [h_M0_7_q33782]; rfl
              have t_33789 : (M0_8_q33783 18 (2 : Int32).toNatClampNeg).toInt = (M0_7_q33782 18 (2 : Int32).toNatClampNeg).toInt := by rw [h_M0_8_q33783]; rfl
              have t_33790 := ia_add (M0_8_q33783 18 (2 : Int32).toNatClampNeg) (1 : Int32) (by omega) (by omega)
              have k_M0_5_q33784 : KX12 I0_l37 M0_5_q33784 := by rw [h_M0_5_q33784]; exact KX12.sm18 k_M0_8_q33783 (SR.um (KX12.ese k_M0_8_q33783) (fun q => absurd q (by decide)) (fun q => absurd q (by decide)) (fun _ => ⟨by omega, by omega⟩))
              have t_33792 := ia_add y37_2 (1 : Int32) (by omega) (by omega)
              refine wq_v (fun v6_q33791 h_v6_q33791 => ?_)
              have t_v6_q33791 := congrArg Int32.toInt h_v6_q33791
              exact ih I0_l37 L0_l37 M0_5_q33784 v6_q33791 ⟨by omega, by omega⟩ k_M0_5_q33784 (by omega)
            · unfold fX12_on_J173
              refine wq_in (n := 7) ⟨by omega, by omega⟩ ?_
              refine wq_in (n := 7) ⟨by omega, by omega⟩ ?_
              refine wq_v (fun M0_5_q33793 h_M0_5_q33793 => ?_)
              have t_33794 : (M0_9_q33774 18 (2 : Int32).toNatClampNeg).toInt = (M0_l37 18 (2 : Int32).toNatClampNeg).toInt := by rw [h_M0_9_q33774]; rfl
              have t_33795 : (M0_10_q33775 18 (2 : Int32).toNatClampNeg).toInt = (M0_9_q33774 18 (2 : Int32).toNatClampNeg).toInt := by rw [h_M0_10_q33775]; rfl
              have t_33796 : (M0_11_q33776 18 (2 : Int32).toNatClampNeg).toInt = (M0_10_q33775 18 (2 : Int32).toNatClampNeg).toInt := by rw [h_M0_11_q33776]; rfl
              have t_33797 := ia_add (M0_11_q33776 18 (2 : Int32).toNatClampNeg) (1 : Int32) (by omega) (by omega)
              have k_M0_5_q33793 : KX12 I0_l37 M0_5_q33793 := by rw [h_M0_5_q33793]; exact KX12.sm18 k_M0_11_q33776 (SR.um (KX12.ese k_M0_11_q33776) (fun q => absurd q (by decide)) (fun q => absurd q (by decide)) (fun _ => ⟨by omega, by omega⟩))
              have t_33799 := ia_add y37_2 (1 : Int32) (by omega) (by omega)
              refine wq_v (fun v6_q33798 h_v6_q33798 => ?_)
              have t_v6_q33798 := congrArg Int32.toInt h_v6_q33798
              exact ih I0_l37 L0_l37 M0_5_q33793 v6_q33798 ⟨by omega, by omega⟩ k_M0_5_q33793 (by omega)
          · exfalso; omega
        · refine wq_in (n := 7) ⟨by omega, by omega⟩ ?_
          unfold fX12_on_J96
          have t_33800 : 0 ≤ (M0_l37 18 (0 : Int32).toNatClampNeg).toInt ∧ (M0_l37 18 (0 : Int32).toNatClampNeg).toInt ≤ 119 := (KX12.ese k_I0_l37).1
          have t_33801 : 0 ≤ (M0_l37 18 (1 : Int32).toNatClampNeg).toInt ∧ (M0_l37 18 (1 : Int32).toNatClampNeg).toInt ≤ 3 := (KX12.ese k_I0_l37).2.1
          refine wq_b (tt_fX12_costOn hN I0_l37 L0_l37 M0_l37 (M0_l37 18 (0 : Int32).toNatClampNeg) (M0_l37 18 (1 : Int32).toNatClampNeg) v13_q33766 (M0_l37 18 (3 : Int32).toNatClampNeg) ⟨by omega, by omega⟩ ⟨by omega, by omega⟩ k_I0_l37) (fun r12_q33802 h_r12_q33802 => ?_)
          obtain ⟨h_r12_q33802_0, -⟩ := h_r12_q33802
          refine wq_in (n := 7) ⟨by omega, by omega⟩ ?_
          refine wq_eq (fun hc_33803 => ?_) (fun hc_33804 => ?_)
          · unfold fX12_on_J122
            refine wq_in (n := 7) ⟨by omega, by omega⟩ ?_
            refine wq_v (fun M0_9_q33805 h_M0_9_q33805 => ?_)
            have k_M0_9_q33805 : KX12 I0_l37 M0_9_q33805 := by rw [h_M0_9_q33805]; exact KX12.sm18 k_I0_l37 (SR.um (KX12.ese k_I0_l37) (fun q => absurd q (by decide)) (fun q => absurd q (by decide)) (fun q => absurd q (by decide)))
            have l_4 := il_4
            refine wq_in (n := 7) ⟨by omega, by omega⟩ ?_
            refine wq_v (fun M0_10_q33806 h_M0_10_q33806 => ?_)
            have k_M0_10_q33806 : KX12 I0_l37 M0_10_q33806 := by rw [h_M0_10_q33806]; exact KX12.sm18 k_M0_9_q33805 (SR.um (KX12.ese k_M0_9_q33805) (fun q => absurd q (by decide)) (fun q => absurd q (by decide)) (fun q => absurd q (by decide)))
            have l_5 := il_5
            refine wq_in (n := 7) ⟨by omega, by omega⟩ ?_
            refine wq_v (fun M0_11_q33807 h_M0_11_q33807 => ?_)
            have k_M0_11_q33807 : KX12 I0_l37 M0_11_q33807 := by rw [h_M0_11_q33807]; exact KX12.sm18 k_M0_10_q33806 (SR.um (KX12.ese k_M0_10_q33806) (fun q => absurd q (by decide)) (fun q => absurd q (by decide)) (fun q => absurd q (by decide)))
            unfold fX12_on_J144
            refine wq_in (n := 7) ⟨by omega, by omega⟩ ?_
            have t_33808 : (M0_9_q33805 18 (3 : Int32).toNatClampNeg).toInt = r12_q33802.toInt := by rw [h_M0_9_q33805]; rfl
            have t_33809 : (M0_10_q33806 18 (3 : Int32).toNatClampNeg).toInt = (M0_9_q33805 18 (3 : Int32).toNatClampNeg).toInt := by rw [h_M0_10_q33806]; rfl
            have t_33810 : (M0_11_q33807 18 (3 : Int32).toNatClampNeg).toInt = (M0_10_q33806 18 (3 : Int32).toNatClampNeg).toInt := by rw [h_M0_11_q33807]; rfl
            refine wq_eq (fun hc_33811 => ?_) (fun hc_33812 => ?_)
            · refine wq_in (n := 7) ⟨by omega, by omega⟩ ?_
              refine wq_in (n := 7) ⟨by omega, by omega⟩ ?_
              refine wq_v (fun M0_7_q33813 h_M0_7_q33813 => ?_)
              have k_M0_7_q33813 : KX12 I0_l37 M0_7_q33813 := by rw [h_M0_7_q33813]; exact KX12.sm18 k_M0_11_q33807 (SR.um (KX12.ese k_M0_11_q33807) (fun q => absurd q (by decide)) (fun q => absurd q (by decide)) (fun q => absurd q (by decide)))
              have l_6 := il_6
              refine wq_in (n := 7) ⟨by omega, by omega⟩ ?_
              refine wq_v (fun M0_8_q33814 h_M0_8_q33814 => ?_)
              have k_M0_8_q33814 : KX12 I0_l37 M0_8_q33814 := by rw [h_M0_8_q33814]; exact KX12.sm18 k_M0_7_q33813 (SR.um (KX12.ese k_M0_7_q33813) (fun q => absurd q (by decide)) (fun q => absurd q (by decide)) (fun q => absurd q (by decide)))
              unfold fX12_on_J173
              refine wq_in (n := 7) ⟨by omega, by omega⟩ ?_
              refine wq_in (n := 7) ⟨by omega, by omega⟩ ?_
              refine wq_v (fun M0_5_q33815 h_M0_5_q33815 => ?_)
              have t_33816 : (M0_9_q33805 18 (2 : Int32).toNatClampNeg).toInt = (M0_l37 18 (2 : Int32).toNatClampNeg).toInt := by rw [h_M0_9_q33805]; rfl
              have t_33817 : (M0_10_q33806 18 (2 : Int32).toNatClampNeg).toInt = (M0_9_q33805 18 (2 : Int32).toNatClampNeg).toInt := by rw [h_M0_10_q33806]; rfl
              have t_33818 : (M0_11_q33807 18 (2 : Int32).toNatClampNeg).toInt = (M0_10_q33806 18 (2 : Int32).toNatClampNeg).toInt := by rw [h_M0_11_q33807]; rfl
              have t_33819 : (M0_7_q33813 18 (2 : Int32).toNatClampNeg).toInt = (M0_11_q33807 18 (2 : Int32).toNatClampNeg).toInt := by rw [h_M0_7_q33813]; rfl
              have t_33820 : (M0_8_q33814 18 (2 : Int32).toNatClampNeg).toInt = (M0_7_q33813 18 (2 : Int32).toNatClampNeg).toInt := by rw [h_M0_8_q33814]; rfl
              have t_33821 := ia_add (M0_8_q33814 18 (2 : Int32).toNatClampNeg) (1 : Int32) (by omega) (by omega)
              have k_M0_5_q33815 : KX12 I0_l37 M0_5_q33815 := by rw [h_M0_5_q33815]; exact KX12.sm18 k_M0_8_q33814 (SR.um (KX12.ese k_M0_8_q33814) (fun q => absurd q (by decide)) (fun q => absurd q (by decide)) (fun _ => ⟨by omega, by omega⟩))
              have t_33823 := ia_add y37_2 (1 : Int32) (by omega) (by omega)
              refine wq_v (fun v6_q33822 h_v6_q33822 => ?_)
              have t_v6_q33822 := congrArg Int32.toInt h_v6_q33822
              exact ih I0_l37 L0_l37 M0_5_q33815 v6_q33822 ⟨by omega, by omega⟩ k_M0_5_q33815 (by omega)
            · unfold fX12_on_J173
              refine wq_in (n := 7) ⟨by omega, by omega⟩ ?_
              refine wq_in (n := 7) ⟨by omega, by omega⟩ ?_
              refine wq_v (fun M0_5_q33824 h_M0_5_q33824 => ?_)
              have t_33825 : (M0_9_q33805 18 (2 : Int32).toNatClampNeg).toInt = (M0_l37 18 (2 : Int32).toNatClampNeg).toInt := by rw [h_M0_9_q33805]; rfl
              have t_33826 : (M0_10_q33806 18 (2 : Int32).toNatClampNeg).toInt = (M0_9_q33805 18 (2 : Int32).toNatClampNeg).toInt := by rw [h_M0_10_q33806]; rfl
              have t_33827 : (M0_11_q33807 18 (2 : Int32).toNatClampNeg).toInt = (M0_10_q33806 18 (2 : Int32).toNatClampNeg).toInt := by rw [h_M0_11_q33807]; rfl
              have t_33828 := ia_add (M0_11_q33807 18 (2 : Int32).toNatClampNeg) (1 : Int32) (by omega) (by omega)
              have k_M0_5_q33824 : KX12 I0_l37 M0_5_q33824 := by rw [h_M0_5_q33824]; exact KX12.sm18 k_M0_11_q33807 (SR.um (KX12.ese k_M0_11_q33807) (fun q => absurd q (by decide)) (fun q => absurd q (by decide)) (fun _ => ⟨by omega, by omega⟩))
              have t_33830 := ia_add y37_2 (1 : Int32) (by omega) (by omega)
              refine wq_v (fun v6_q33829 h_v6_q33829 => ?_)
              have t_v6_q33829 := congrArg Int32.toInt h_v6_q33829
              exact ih I0_l37 L0_l37 M0_5_q33824 v6_q33829 ⟨by omega, by omega⟩ k_M0_5_q33824 (by omega)
          · refine wq_in (n := 7) ⟨by omega, by omega⟩ ?_
            refine wq_le (fun hc_33831 => ?_) (fun hc_33832 => ?_)
            · unfold fX12_on_J144
              refine wq_in (n := 7) ⟨by omega, by omega⟩ ?_
              refine wq_eq (fun hc_33833 => ?_) (fun hc_33834 => ?_)
              · have l_4 := il_4
                refine wq_in (n := 7) ⟨by omega, by omega⟩ ?_
                refine wq_in (n := 7) ⟨by omega, by omega⟩ ?_
                refine wq_v (fun M0_7_q33835 h_M0_7_q33835 => ?_)
                have k_M0_7_q33835 : KX12 I0_l37 M0_7_q33835 := by rw [h_M0_7_q33835]; exact KX12.sm18 k_I0_l37 (SR.um (KX12.ese k_I0_l37) (fun q => absurd q (by decide)) (fun q => absurd q (by decide)) (fun q => absurd q (by decide)))
                have l_6 := il_6
                refine wq_in (n := 7) ⟨by omega, by omega⟩ ?_
                refine wq_v (fun M0_8_q33836 h_M0_8_q33836 => ?_)
                have k_M0_8_q33836 : KX12 I0_l37 M0_8_q33836 := by rw [h_M0_8_q33836]; exact KX12.sm18 k_M0_7_q33835 (SR.um (KX12.ese k_M0_7_q33835) (fun q => absurd q (by decide)) (fun q => absurd q (by decide)) (fun q => absurd q (by decide)))
                unfold fX12_on_J173
                refine wq_in (n := 7) ⟨by omega, by omega⟩ ?_
                refine wq_in (n := 7) ⟨by omega, by omega⟩ ?_
                refine wq_v (fun M0_5_q33837 h_M0_5_q33837 => ?_)
                have t_33838 : (M0_7_q33835 18 (2 : Int32).toNatClampNeg).toInt = (M0_l37 18 (2 : Int32).toNatClampNeg).toInt := by rw [h_M0_7_q33835]; rfl
                have t_33839 : (M0_8_q33836 18 (2 : Int32).toNatClampNeg).toInt = (M0_7_q33835 18 (2 : Int32).toNatClampNeg).toInt := by rw [h_M0_8_q33836]; rfl
                have t_33840 := ia_add (M0_8_q33836 18 (2 : Int32).toNatClampNeg) (1 : Int32) (by omega) (by omega)
                have k_M0_5_q33837 : KX12 I0_l37 M0_5_q33837 := by rw [h_M0_5_q33837]; exact KX12.sm18 k_M0_8_q33836 (SR.um (KX12.ese k_M0_8_q33836) (fun q => absurd q (by decide)) (fun q => absurd q (by decide)) (fun _ => ⟨by omega, by omega⟩))
                have t_33842 := ia_add y37_2 (1 : Int32) (by omega) (by omega)
                refine wq_v (fun v6_q33841 h_v6_q33841 => ?_)
                have t_v6_q33841 := congrArg Int32.toInt h_v6_q33841
                exact ih I0_l37 L0_l37 M0_5_q33837 v6_q33841 ⟨by omega, by omega⟩ k_M0_5_q33837 (by omega)
              · unfold fX12_on_J173
                refine wq_in (n := 7) ⟨by omega, by omega⟩ ?_
                refine wq_in (n := 7) ⟨by omega, by omega⟩ ?_
                refine wq_v (fun M0_5_q33843 h_M0_5_q33843 => ?_)
                have t_33844 := ia_add (M0_l37 18 (2 : Int32).toNatClampNeg) (1 : Int32) (by omega) (by omega)
                have k_M0_5_q33843 : KX12 I0_l37 M0_5_q33843 := by rw [h_M0_5_q33843]; exact KX12.sm18 k_I0_l37 (SR.um (KX12.ese k_I0_l37) (fun q => absurd q (by decide)) (fun q => absurd q (by decide)) (fun _ => ⟨by omega, by omega⟩))
                have t_33846 := ia_add y37_2 (1 : Int32) (by omega) (by omega)
                refine wq_v (fun v6_q33845 h_v6_q33845 => ?_)
                have t_v6_q33845 := congrArg Int32.toInt h_v6_q33845
                exact ih I0_l37 L0_l37 M0_5_q33843 v6_q33845 ⟨by omega, by omega⟩ k_M0_5_q33843 (by omega)
            · unfold fX12_on_J122
              refine wq_in (n := 7) ⟨by omega, by omega⟩ ?_
              refine wq_v (fun M0_9_q33847 h_M0_9_q33847 => ?_)
              have k_M0_9_q33847 : KX12 I0_l37 M0_9_q33847 := by rw [h_M0_9_q33847]; exact KX12.sm18 k_I0_l37 (SR.um (KX12.ese k_I0_l37) (fun q => absurd q (by decide)) (fun q => absurd q (by decide)) (fun q => absurd q (by decide)))
              have l_4 := il_4
              refine wq_in (n := 7) ⟨by omega, by omega⟩ ?_
              refine wq_v (fun M0_10_q33848 h_M0_10_q33848 => ?_)
              have k_M0_10_q33848 : KX12 I0_l37 M0_10_q33848 := by rw [h_M0_10_q33848]; exact KX12.sm18 k_M0_9_q33847 (SR.um (KX12.ese k_M0_9_q33847) (fun q => absurd q (by decide)) (fun q => absurd q (by decide)) (fun q => absurd q (by decide)))
              have l_5 := il_5
              refine wq_in (n := 7) ⟨by omega, by omega⟩ ?_
              refine wq_v (fun M0_11_q33849 h_M0_11_q33849 => ?_)
              have k_M0_11_q33849 : KX12 I0_l37 M0_11_q33849 := by rw [h_M0_11_q33849]; exact KX12.sm18 k_M0_10_q33848 (SR.um (KX12.ese k_M0_10_q33848) (fun q => absurd q (by decide)) (fun q => absurd q (by decide)) (fun q => absurd q (by decide)))
              unfold fX12_on_J144
              refine wq_in (n := 7) ⟨by omega, by omega⟩ ?_
              have t_33850 : (M0_9_q33847 18 (3 : Int32).toNatClampNeg).toInt = r12_q33802.toInt := by rw [h_M0_9_q33847]; rfl
              have t_33851 : (M0_10_q33848 18 (3 : Int32).toNatClampNeg).toInt = (M0_9_q33847 18 (3 : Int32).toNatClampNeg).toInt := by rw [h_M0_10_q33848]; rfl
              have t_33852 : (M0_11_q33849 18 (3 : Int32).toNatClampNeg).toInt = (M0_10_q33848 18 (3 : Int32).toNatClampNeg).toInt := by rw [h_M0_11_q33849]; rfl
              refine wq_eq (fun hc_33853 => ?_) (fun hc_33854 => ?_)
              · refine wq_in (n := 7) ⟨by omega, by omega⟩ ?_
                refine wq_in (n := 7) ⟨by omega, by omega⟩ ?_
                refine wq_v (fun M0_7_q33855 h_M0_7_q33855 => ?_)
                have k_M0_7_q33855 : KX12 I0_l37 M0_7_q33855 := by rw [h_M0_7_q33855]; exact KX12.sm18 k_M0_11_q33849 (SR.um (KX12.ese k_M0_11_q33849) (fun q => absurd q (by decide)) (fun q => absurd q (by decide)) (fun q => absurd q (by decide)))
                have l_6 := il_6
                refine wq_in (n := 7) ⟨by omega, by omega⟩ ?_
                refine wq_v (fun M0_8_q33856 h_M0_8_q33856 => ?_)
                have k_M0_8_q33856 : KX12 I0_l37 M0_8_q33856 := by rw [h_M0_8_q33856]; exact KX12.sm18 k_M0_7_q33855 (SR.um (KX12.ese k_M0_7_q33855) (fun q => absurd q (by decide)) (fun q => absurd q (by decide)) (fun q => absurd q (by decide)))
                unfold fX12_on_J173
                refine wq_in (n := 7) ⟨by omega, by omega⟩ ?_
                refine wq_in (n := 7) ⟨by omega, by omega⟩ ?_
                refine wq_v (fun M0_5_q33857 h_M0_5_q33857 => ?_)
                have t_33858 : (M0_9_q33847 18 (2 : Int32).toNatClampNeg).toInt = (M0_l37 18 (2 : Int32).toNatClampNeg).toInt := by rw [h_M0_9_q33847]; rfl
                have t_33859 : (M0_10_q33848 18 (2 : Int32).toNatClampNeg).toInt = (M0_9_q33847 18 (2 : Int32).toNatClampNeg).toInt := by rw [h_M0_10_q33848]; rfl
                have t_33860 : (M0_11_q33849 18 (2 : Int32).toNatClampNeg).toInt = (M0_10_q33848 18 (2 : Int32).toNatClampNeg).toInt := by rw [h_M0_11_q33849]; rfl
                have t_33861 : (M0_7_q33855 18 (2 : Int32).toNatClampNeg).toInt = (M0_11_q33849 18 (2 : Int32).toNatClampNeg).toInt := by rw [h_M0_7_q33855]; rfl
                have t_33862 : (M0_8_q33856 18 (2 : Int32).toNatClampNeg).toInt = (M0_7_q33855 18 (2 : Int32).toNatClampNeg).toInt := by rw [h_M0_8_q33856]; rfl
                have t_33863 := ia_add (M0_8_q33856 18 (2 : Int32).toNatClampNeg) (1 : Int32) (by omega) (by omega)
                have k_M0_5_q33857 : KX12 I0_l37 M0_5_q33857 := by rw [h_M0_5_q33857]; exact KX12.sm18 k_M0_8_q33856 (SR.um (KX12.ese k_M0_8_q33856) (fun q => absurd q (by decide)) (fun q => absurd q (by decide)) (fun _ => ⟨by omega, by omega⟩))
                have t_33865 := ia_add y37_2 (1 : Int32) (by omega) (by omega)
                refine wq_v (fun v6_q33864 h_v6_q33864 => ?_)
                have t_v6_q33864 := congrArg Int32.toInt h_v6_q33864
                exact ih I0_l37 L0_l37 M0_5_q33857 v6_q33864 ⟨by omega, by omega⟩ k_M0_5_q33857 (by omega)
              · unfold fX12_on_J173
                refine wq_in (n := 7) ⟨by omega, by omega⟩ ?_
                refine wq_in (n := 7) ⟨by omega, by omega⟩ ?_
                refine wq_v (fun M0_5_q33866 h_M0_5_q33866 => ?_)
                have t_33867 : (M0_9_q33847 18 (2 : Int32).toNatClampNeg).toInt = (M0_l37 18 (2 : Int32).toNatClampNeg).toInt := by rw [h_M0_9_q33847]; rfl
                have t_33868 : (M0_10_q33848 18 (2 : Int32).toNatClampNeg).toInt = (M0_9_q33847 18 (2 : Int32).toNatClampNeg).toInt := by rw [h_M0_10_q33848]; rfl
                have t_33869 : (M0_11_q33849 18 (2 : Int32).toNatClampNeg).toInt = (M0_10_q33848 18 (2 : Int32).toNatClampNeg).toInt := by rw [h_M0_11_q33849]; rfl
                have t_33870 := ia_add (M0_11_q33849 18 (2 : Int32).toNatClampNeg) (1 : Int32) (by omega) (by omega)
                have k_M0_5_q33866 : KX12 I0_l37 M0_5_q33866 := by rw [h_M0_5_q33866]; exact KX12.sm18 k_M0_11_q33849 (SR.um (KX12.ese k_M0_11_q33849) (fun q => absurd q (by decide)) (fun q => absurd q (by decide)) (fun _ => ⟨by omega, by omega⟩))
                have t_33872 := ia_add y37_2 (1 : Int32) (by omega) (by omega)
                refine wq_v (fun v6_q33871 h_v6_q33871 => ?_)
                have t_v6_q33871 := congrArg Int32.toInt h_v6_q33871
                exact ih I0_l37 L0_l37 M0_5_q33866 v6_q33871 ⟨by omega, by omega⟩ k_M0_5_q33866 (by omega)
set_option maxHeartbeats 4000000 in
theorem tt_fX12_on {N : Nat} (hN : 3000000000 ≤ N) (I0 : Nat → Int32) (L0 : Int64) (M0 : Nat → Nat → Int32) (x1 : Int32) (k_I0 : KX12 I0 M0) : wq (fX12_on N I0 L0 M0 x1) (fun r => (0 ≤ r.1.toInt ∧ r.1.toInt ≤ 50000) ∧ KX12 r.2.1 r.2.2.2 ∧ True) := by
  unfold fX12_on
  refine wq_v (fun I0_1_q33873 h_I0_1_q33873 => ?_)
  have k_I0_1_q33873 : KX12 I0_1_q33873 M0 := by rw [h_I0_1_q33873]; exact KX12.si0 k_I0
  have t_33874 := KX12.i16 k_I0
  have t_33875 : (I0_1_q33873 16).toInt = (I0 16).toInt := by rw [h_I0_1_q33873]; rfl
  have l_1 := il_1
  refine wq_b (tt_fX12_right hN I0_1_q33873 L0 M0 (I0_1_q33873 16) (1 : Int32) ⟨by omega, by omega⟩ k_I0_1_q33873) (fun r2_q33876 h_r2_q33876 => ?_)
  obtain ⟨h_r2_q33876_0, h_r2_q33876_1, h_r2_q33876_2, h_r2_q33876_3, -⟩ := h_r2_q33876
  have t_33877 := KX12.i1 h_r2_q33876_3
  have t_33878 := KX12.i1 k_I0
  have t_33879 : (I0_1_q33873 1).toInt = (I0 1).toInt := by rw [h_I0_1_q33873]; rfl
  have l_0 := il_0
  refine wq_eq (fun hc_33880 => ?_) (fun hc_33881 => ?_)
  · exact wq_s ⟨(show 0 ≤ (0 : Int32).toInt ∧ (0 : Int32).toInt ≤ 50000 from ⟨by omega, by omega⟩), h_r2_q33876_3, trivial⟩
  · have b_33882 := i32b x1
    have l_50000 := il_50000
    refine wq_b (tt_fX12_within hN x1 (0 : Int32) (50000 : Int32)) (fun r3_q33883 h_r3_q33883 => ?_)
    obtain ⟨h_r3_q33883_0, h_r3_q33883_1, -⟩ := h_r3_q33883
    have l_2 := il_2
    refine wq_b (tt_fX12_right hN r2_q33876.2.1 r2_q33876.2.2.1 r2_q33876.2.2.2 r3_q33883 (2 : Int32) ⟨by omega, by omega⟩ h_r2_q33876_3) (fun r4_q33884 h_r4_q33884 => ?_)
    obtain ⟨h_r4_q33884_0, h_r4_q33884_1, h_r4_q33884_2, h_r4_q33884_3, -⟩ := h_r4_q33884
    have t_33885 := KX12.i1 h_r4_q33884_3
    refine wq_eq (fun hc_33886 => ?_) (fun hc_33887 => ?_)
    · exact wq_s ⟨(show 0 ≤ (0 : Int32).toInt ∧ (0 : Int32).toInt ≤ 50000 from ⟨by omega, by omega⟩), h_r4_q33884_3, trivial⟩
    · exact tt_fX12_on_L37 hN x1 ⟨by omega, by omega⟩ N r4_q33884.2.1 r4_q33884.2.2.1 r4_q33884.2.2.2 (0 : Int32) ⟨by omega, by omega⟩ h_r4_q33884_3 (by omega)
set_option maxHeartbeats 4000000 in
theorem tt_fX12_held {N : Nat} (hN : 3000000000 ≤ N) (I0 : Nat → Int32) (L0 : Int64) (M0 : Nat → Nat → Int32) (x1 : Int32) (k_I0 : KX12 I0 M0) : wq (fX12_held N I0 L0 M0 x1) (fun r => KX12 r.2.1 r.2.2.2 ∧ True) := by
  unfold fX12_held
  refine wq_v (fun I0_2_q34062 h_I0_2_q34062 => ?_)
  have k_I0_2_q34062 : KX12 I0_2_q34062 M0 := by rw [h_I0_2_q34062]; exact KX12.si0 k_I0
  have t_34063 := KX12.i16 k_I0
  have t_34064 : (I0_2_q34062 16).toInt = (I0 16).toInt := by rw [h_I0_2_q34062]; rfl
  have l_0 := il_0
  refine wq_eq (fun hc_34065 => ?_) (fun hc_34066 => ?_)
  · unfold fX12_held_J26
    unfold fX12_held_J27
    have l_1 := il_1
    refine wq_b (tt_fX12_right hN I0_2_q34062 L0 M0 (0 : Int32) (1 : Int32) ⟨by omega, by omega⟩ k_I0_2_q34062) (fun r1_q34067 h_r1_q34067 => ?_)
    obtain ⟨h_r1_q34067_0, h_r1_q34067_1, h_r1_q34067_2, h_r1_q34067_3, -⟩ := h_r1_q34067
    have t_34068 := KX12.i1 h_r1_q34067_3
    have t_34069 := KX12.i1 k_I0
    have t_34070 : (I0_2_q34062 1).toInt = (I0 1).toInt := by rw [h_I0_2_q34062]; rfl
    refine wq_eq (fun hc_34071 => ?_) (fun hc_34072 => ?_)
    · exact wq_s ⟨h_r1_q34067_3, trivial⟩
    · have l_2 := il_2
      have b_34073 := i32b x1
      refine wq_in (n := 7) ⟨by omega, by omega⟩ ?_
      exact wq_s ⟨h_r1_q34067_3, trivial⟩
  · have b_34074 := i32b x1
    have l_4 := il_4
    refine wq_b (tt_fX12_within hN x1 (0 : Int32) (4 : Int32)) (fun r3_q34075 h_r3_q34075 => ?_)
    obtain ⟨h_r3_q34075_0, h_r3_q34075_1, -⟩ := h_r3_q34075
    refine wq_eq (fun hc_34076 => ?_) (fun hc_34077 => ?_)
    · unfold fX12_held_J26
      unfold fX12_held_J27
      have l_1 := il_1
      refine wq_b (tt_fX12_right hN I0_2_q34062 L0 M0 (0 : Int32) (1 : Int32) ⟨by omega, by omega⟩ k_I0_2_q34062) (fun r1_q34078 h_r1_q34078 => ?_)
      obtain ⟨h_r1_q34078_0, h_r1_q34078_1, h_r1_q34078_2, h_r1_q34078_3, -⟩ := h_r1_q34078
      have t_34079 := KX12.i1 h_r1_q34078_3
      have t_34080 := KX12.i1 k_I0
      have t_34081 : (I0_2_q34062 1).toInt = (I0 1).toInt := by rw [h_I0_2_q34062]; rfl
      refine wq_eq (fun hc_34082 => ?_) (fun hc_34083 => ?_)
      · exact wq_s ⟨h_r1_q34078_3, trivial⟩
      · have l_2 := il_2
        refine wq_in (n := 7) ⟨by omega, by omega⟩ ?_
        exact wq_s ⟨h_r1_q34078_3, trivial⟩
    · unfold fX12_held_J27
      have l_1 := il_1
      refine wq_b (tt_fX12_right hN I0_2_q34062 L0 M0 (1 : Int32) (1 : Int32) ⟨by omega, by omega⟩ k_I0_2_q34062) (fun r1_q34084 h_r1_q34084 => ?_)
      obtain ⟨h_r1_q34084_0, h_r1_q34084_1, h_r1_q34084_2, h_r1_q34084_3, -⟩ := h_r1_q34084
      have t_34085 := KX12.i1 h_r1_q34084_3
      have t_34086 := KX12.i1 k_I0
      have t_34087 : (I0_2_q34062 1).toInt = (I0 1).toInt := by rw [h_I0_2_q34062]; rfl
      refine wq_eq (fun hc_34088 => ?_) (fun hc_34089 => ?_)
      · exact wq_s ⟨h_r1_q34084_3, trivial⟩
      · have l_2 := il_2
        have t_34090 := ia_add (2 : Int32) x1 (by omega) (by omega)
        refine wq_in (n := 7) ⟨by omega, by omega⟩ ?_
        exact wq_s ⟨h_r1_q34084_3, trivial⟩
theorem tt_fX12_image {N : Nat} (hN : 3000000000 ≤ N) (I0 : Nat → Int32) (L0 : Int64) (M0 : Nat → Nat → Int32) (k_I0 : KX12 I0 M0) : wq (fX12_image N I0 L0 M0) (fun r => KX12 r.2.1 r.2.2.2 ∧ True) := by
  unfold fX12_image
  refine wq_v (fun I1 e1 => ?_)
  have k1 : KX12 I1 M0 := by rw [e1]; exact KX12.si0 k_I0
  refine wq_eq (fun hc => wq_s ⟨k1, trivial⟩) (fun hc => ?_)
  refine wq_v (fun I2 e2 => ?_)
  have k2 : KX12 I2 M0 := by rw [e2]; exact KX12.si17 k1 ⟨by decide, by decide⟩
  rw [tt_copies hN 7 (M0 18) 7 (M0 19) (by omega) (by decide), Option.bind_some]
  refine wq_v (fun M4 e4 => ?_)
  rw [e4]
  exact wq_s ⟨KX12.sf19 k2 ⟨k_I0.ese.1, k_I0.ese.2.1, k_I0.ese.2.2⟩, trivial⟩
theorem tt_fX12_restore {N : Nat} (hN : 3000000000 ≤ N) (I0 : Nat → Int32) (L0 : Int64) (M0 : Nat → Nat → Int32) (k_I0 : KX12 I0 M0) : wq (fX12_restore N I0 L0 M0) (fun r => KX12 r.2.1 r.2.2.2 ∧ True) := by
  unfold fX12_restore
  refine wq_v (fun I1 e1 => ?_)
  have k1 : KX12 I1 M0 := by rw [e1]; exact KX12.si0 k_I0
  refine wq_eq (fun hc => wq_s ⟨k1, trivial⟩) (fun hc => ?_)
  refine wq_v (fun I2 e2 => ?_)
  have k2 : KX12 I2 M0 := by rw [e2]; exact KX12.si16 k1 ⟨by decide, by decide⟩
  rw [tt_copies hN 7 (M0 19) 7 (M0 18) (by omega) (by decide), Option.bind_some]
  refine wq_v (fun M4 e4 => ?_)
  rw [e4]
  exact wq_s ⟨KX12.sf18 k2 ⟨k_I0.esi.1, k_I0.esi.2.1, k_I0.esi.2.2⟩, trivial⟩

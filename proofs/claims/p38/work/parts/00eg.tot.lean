set_option maxHeartbeats 4000000 in
theorem tt_fX12_readsEntry {N : Nat} (hN : 3000000000 ≤ N) (I0 : Nat → Int32) (L0 : Int64) (M0 : Nat → Nat → Int32) (k_I0 : KX12 I0 M0) : wq (fX12_readsEntry N I0 L0 M0) (fun r => KX12 r.1 r.2.2 ∧ True) := by
  unfold fX12_readsEntry
  refine wq_b (tt_fX12_knownWord hN I0 L0 M0 k_I0) (fun r21_q27436 h_r21_q27436 => ?_)
  obtain ⟨h_r21_q27436_0, -⟩ := h_r21_q27436
  have l_0 := il_0
  refine wq_lt (fun hc_27437 => ?_) (fun hc_27438 => ?_)
  · unfold fX12_readsEntry_J15
    have l_1 := il_1
    refine wq_b (tt_fX12_wrong hN I0 L0 M0 (1 : Int32) k_I0) (fun r20_q27439 h_r20_q27439 => ?_)
    obtain ⟨h_r20_q27439_0, -⟩ := h_r20_q27439
    unfold fX12_readsEntry_J20
    refine wq_b (tt_fX12_isGood hN r20_q27439.1 r20_q27439.2.1 r20_q27439.2.2 h_r20_q27439_0) (fun r19_q27440 h_r19_q27440 => ?_)
    obtain ⟨h_r19_q27440_0, -⟩ := h_r19_q27440
    refine wq_eq (fun hc_27441 => ?_) (fun hc_27442 => ?_)
    · exact wq_s ⟨h_r20_q27439_0, trivial⟩
    · have l_10 := il_10
      refine wq_eq (fun hc_27443 => ?_) (fun hc_27444 => ?_)
      · exfalso; omega
      · unfold fX12_readsEntry_J40
        have l_9 := il_9
        refine wq_eq (fun hc_27445 => ?_) (fun hc_27446 => ?_)
        · exfalso; omega
        · refine wq_in (n := 22) ⟨by omega, by omega⟩ ?_
          have t_27447 := KX12.m16 h_r20_q27439_0 r21_q27436.toNatClampNeg
          have l_m1 := il_m1
          refine wq_eq (fun hc_27448 => ?_) (fun hc_27449 => ?_)
          · unfold fX12_readsEntry_J62
            refine wq_b (tt_fX12_isGood hN r20_q27439.1 r20_q27439.2.1 r20_q27439.2.2 h_r20_q27439_0) (fun r9b_q27450 h_r9b_q27450 => ?_)
            obtain ⟨h_r9b_q27450_0, -⟩ := h_r9b_q27450
            refine wq_eq (fun hc_27451 => ?_) (fun hc_27452 => ?_)
            · exact wq_s ⟨h_r20_q27439_0, trivial⟩
            · refine wq_b (tt_fX12_steps hN r20_q27439.1 r20_q27439.2.1 r20_q27439.2.2 h_r20_q27439_0) (fun r10_q27453 h_r10_q27453 => ?_)
              obtain ⟨h_r10_q27453_0, -⟩ := h_r10_q27453
              refine wq_eq (fun hc_27454 => ?_) (fun hc_27455 => ?_)
              · exfalso; omega
              · unfold fX12_readsEntry_J129
                refine wq_eq (fun hc_27456 => ?_) (fun hc_27457 => ?_)
                · exfalso; omega
                · unfold fX12_readsEntry_J144
                  have l_11 := il_11
                  refine wq_b (tt_fX12_number hN r10_q27453.1 r10_q27453.2.1 r10_q27453.2.2 (0 : Int32) (11 : Int32) h_r10_q27453_0) (fun r7_q27458 h_r7_q27458 => ?_)
                  obtain ⟨h_r7_q27458_0, -⟩ := h_r7_q27458
                  have b_27460 := i32b r7_q27458.1
                  refine wq_v (fun v8_q27459 h_v8_q27459 => ?_)
                  have t_v8_q27459 := congrArg Int32.toInt h_v8_q27459
                  refine wq_eq (fun hc_27461 => ?_) (fun hc_27462 => ?_)
                  · exfalso; omega
                  · unfold fX12_readsEntry_J166
                    unfold fX12_readsEntry_J168
                    have l_29 := il_29
                    refine wq_b (tt_fX12_number hN r7_q27458.2.1 r7_q27458.2.2.1 r7_q27458.2.2.2 (0 : Int32) (29 : Int32) h_r7_q27458_0) (fun r3_q27463 h_r3_q27463 => ?_)
                    obtain ⟨h_r3_q27463_0, -⟩ := h_r3_q27463
                    have b_27465 := i32b r3_q27463.1
                    refine wq_v (fun v4_q27464 h_v4_q27464 => ?_)
                    have t_v4_q27464 := congrArg Int32.toInt h_v4_q27464
                    refine wq_b (tt_fX12_isGood hN r3_q27463.2.1 r3_q27463.2.2.1 r3_q27463.2.2.2 h_r3_q27463_0) (fun r5_q27466 h_r5_q27466 => ?_)
                    obtain ⟨h_r5_q27466_0, -⟩ := h_r5_q27466
                    refine wq_eq (fun hc_27467 => ?_) (fun hc_27468 => ?_)
                    · unfold fX12_readsEntry_J193
                      have l_3 := il_3
                      refine wq_eq (fun hc_27469 => ?_) (fun hc_27470 => ?_)
                      · refine wq_b (tt_fX12_need hN r3_q27463.2.1 r3_q27463.2.2.1 r3_q27463.2.2.2 (1 : Int32) h_r3_q27463_0) (fun r2_q27471 h_r2_q27471 => ?_)
                        obtain ⟨h_r2_q27471_0, -⟩ := h_r2_q27471
                        exact wq_s ⟨h_r2_q27471_0, trivial⟩
                      · refine wq_b (tt_fX12_need hN r3_q27463.2.1 r3_q27463.2.2.1 r3_q27463.2.2.2 (0 : Int32) h_r3_q27463_0) (fun r1_q27472 h_r1_q27472 => ?_)
                        obtain ⟨h_r1_q27472_0, -⟩ := h_r1_q27472
                        exact wq_s ⟨h_r1_q27472_0, trivial⟩
                    · refine wq_in (n := 22) ⟨by omega, by omega⟩ ?_
                      refine wq_v (fun M0_6_q27473 h_M0_6_q27473 => ?_)
                      have b_27474 := i32b v8_q27459
                      have l_30 := il_30
                      have b_27475 := i32b v4_q27464
                      have tn_27476 := tn_of r21_q27436 (by omega)
                      have k_M0_6_q27473 : KX12 r3_q27463.2.1 M0_6_q27473 := by rw [h_M0_6_q27473]; exact KX12.sm16 h_r3_q27463_0 ⟨by omega, by omega⟩ (DN.um (KX12.edn h_r3_q27463_0) (fun q => by omega))
                      unfold fX12_readsEntry_J193
                      have l_3 := il_3
                      refine wq_eq (fun hc_27477 => ?_) (fun hc_27478 => ?_)
                      · refine wq_b (tt_fX12_need hN r3_q27463.2.1 r3_q27463.2.2.1 M0_6_q27473 (1 : Int32) k_M0_6_q27473) (fun r2_q27479 h_r2_q27479 => ?_)
                        obtain ⟨h_r2_q27479_0, -⟩ := h_r2_q27479
                        exact wq_s ⟨h_r2_q27479_0, trivial⟩
                      · refine wq_b (tt_fX12_need hN r3_q27463.2.1 r3_q27463.2.2.1 M0_6_q27473 (0 : Int32) k_M0_6_q27473) (fun r1_q27480 h_r1_q27480 => ?_)
                        obtain ⟨h_r1_q27480_0, -⟩ := h_r1_q27480
                        exact wq_s ⟨h_r1_q27480_0, trivial⟩
          · have l_3 := il_3
            refine wq_b (tt_fX12_wrong hN r20_q27439.1 r20_q27439.2.1 r20_q27439.2.2 (3 : Int32) h_r20_q27439_0) (fun r18_q27481 h_r18_q27481 => ?_)
            obtain ⟨h_r18_q27481_0, -⟩ := h_r18_q27481
            unfold fX12_readsEntry_J62
            refine wq_b (tt_fX12_isGood hN r18_q27481.1 r18_q27481.2.1 r18_q27481.2.2 h_r18_q27481_0) (fun r9b_q27482 h_r9b_q27482 => ?_)
            obtain ⟨h_r9b_q27482_0, -⟩ := h_r9b_q27482
            refine wq_eq (fun hc_27483 => ?_) (fun hc_27484 => ?_)
            · exact wq_s ⟨h_r18_q27481_0, trivial⟩
            · refine wq_b (tt_fX12_steps hN r18_q27481.1 r18_q27481.2.1 r18_q27481.2.2 h_r18_q27481_0) (fun r10_q27485 h_r10_q27485 => ?_)
              obtain ⟨h_r10_q27485_0, -⟩ := h_r10_q27485
              refine wq_eq (fun hc_27486 => ?_) (fun hc_27487 => ?_)
              · exfalso; omega
              · unfold fX12_readsEntry_J129
                refine wq_eq (fun hc_27488 => ?_) (fun hc_27489 => ?_)
                · exfalso; omega
                · unfold fX12_readsEntry_J144
                  have l_11 := il_11
                  refine wq_b (tt_fX12_number hN r10_q27485.1 r10_q27485.2.1 r10_q27485.2.2 (0 : Int32) (11 : Int32) h_r10_q27485_0) (fun r7_q27490 h_r7_q27490 => ?_)
                  obtain ⟨h_r7_q27490_0, -⟩ := h_r7_q27490
                  have b_27492 := i32b r7_q27490.1
                  refine wq_v (fun v8_q27491 h_v8_q27491 => ?_)
                  have t_v8_q27491 := congrArg Int32.toInt h_v8_q27491
                  refine wq_eq (fun hc_27493 => ?_) (fun hc_27494 => ?_)
                  · exfalso; omega
                  · unfold fX12_readsEntry_J166
                    unfold fX12_readsEntry_J168
                    have l_29 := il_29
                    refine wq_b (tt_fX12_number hN r7_q27490.2.1 r7_q27490.2.2.1 r7_q27490.2.2.2 (0 : Int32) (29 : Int32) h_r7_q27490_0) (fun r3_q27495 h_r3_q27495 => ?_)
                    obtain ⟨h_r3_q27495_0, -⟩ := h_r3_q27495
                    have b_27497 := i32b r3_q27495.1
                    refine wq_v (fun v4_q27496 h_v4_q27496 => ?_)
                    have t_v4_q27496 := congrArg Int32.toInt h_v4_q27496
                    refine wq_b (tt_fX12_isGood hN r3_q27495.2.1 r3_q27495.2.2.1 r3_q27495.2.2.2 h_r3_q27495_0) (fun r5_q27498 h_r5_q27498 => ?_)
                    obtain ⟨h_r5_q27498_0, -⟩ := h_r5_q27498
                    refine wq_eq (fun hc_27499 => ?_) (fun hc_27500 => ?_)
                    · unfold fX12_readsEntry_J193
                      refine wq_eq (fun hc_27501 => ?_) (fun hc_27502 => ?_)
                      · refine wq_b (tt_fX12_need hN r3_q27495.2.1 r3_q27495.2.2.1 r3_q27495.2.2.2 (1 : Int32) h_r3_q27495_0) (fun r2_q27503 h_r2_q27503 => ?_)
                        obtain ⟨h_r2_q27503_0, -⟩ := h_r2_q27503
                        exact wq_s ⟨h_r2_q27503_0, trivial⟩
                      · refine wq_b (tt_fX12_need hN r3_q27495.2.1 r3_q27495.2.2.1 r3_q27495.2.2.2 (0 : Int32) h_r3_q27495_0) (fun r1_q27504 h_r1_q27504 => ?_)
                        obtain ⟨h_r1_q27504_0, -⟩ := h_r1_q27504
                        exact wq_s ⟨h_r1_q27504_0, trivial⟩
                    · refine wq_in (n := 22) ⟨by omega, by omega⟩ ?_
                      refine wq_v (fun M0_6_q27505 h_M0_6_q27505 => ?_)
                      have b_27506 := i32b v8_q27491
                      have l_30 := il_30
                      have b_27507 := i32b v4_q27496
                      have tn_27508 := tn_of r21_q27436 (by omega)
                      have k_M0_6_q27505 : KX12 r3_q27495.2.1 M0_6_q27505 := by rw [h_M0_6_q27505]; exact KX12.sm16 h_r3_q27495_0 ⟨by omega, by omega⟩ (DN.um (KX12.edn h_r3_q27495_0) (fun q => by omega))
                      unfold fX12_readsEntry_J193
                      refine wq_eq (fun hc_27509 => ?_) (fun hc_27510 => ?_)
                      · refine wq_b (tt_fX12_need hN r3_q27495.2.1 r3_q27495.2.2.1 M0_6_q27505 (1 : Int32) k_M0_6_q27505) (fun r2_q27511 h_r2_q27511 => ?_)
                        obtain ⟨h_r2_q27511_0, -⟩ := h_r2_q27511
                        exact wq_s ⟨h_r2_q27511_0, trivial⟩
                      · refine wq_b (tt_fX12_need hN r3_q27495.2.1 r3_q27495.2.2.1 M0_6_q27505 (0 : Int32) k_M0_6_q27505) (fun r1_q27512 h_r1_q27512 => ?_)
                        obtain ⟨h_r1_q27512_0, -⟩ := h_r1_q27512
                        exact wq_s ⟨h_r1_q27512_0, trivial⟩
  · have l_10 := il_10
    refine wq_le (fun hc_27513 => ?_) (fun hc_27514 => ?_)
    · unfold fX12_readsEntry_J20
      refine wq_b (tt_fX12_isGood hN I0 L0 M0 k_I0) (fun r19_q27515 h_r19_q27515 => ?_)
      obtain ⟨h_r19_q27515_0, -⟩ := h_r19_q27515
      refine wq_eq (fun hc_27516 => ?_) (fun hc_27517 => ?_)
      · exact wq_s ⟨k_I0, trivial⟩
      · refine wq_eq (fun hc_27518 => ?_) (fun hc_27519 => ?_)
        · unfold fX12_readsEntry_J40
          have l_9 := il_9
          refine wq_eq (fun hc_27520 => ?_) (fun hc_27521 => ?_)
          · exfalso; omega
          · have l_21 := il_21
            refine wq_in (n := 22) ⟨by omega, by omega⟩ ?_
            have t_27522 := KX12.m16 k_I0 ((21 : Int32)).toNatClampNeg
            have l_m1 := il_m1
            refine wq_eq (fun hc_27523 => ?_) (fun hc_27524 => ?_)
            · unfold fX12_readsEntry_J62
              refine wq_b (tt_fX12_isGood hN I0 L0 M0 k_I0) (fun r9b_q27525 h_r9b_q27525 => ?_)
              obtain ⟨h_r9b_q27525_0, -⟩ := h_r9b_q27525
              refine wq_eq (fun hc_27526 => ?_) (fun hc_27527 => ?_)
              · exact wq_s ⟨k_I0, trivial⟩
              · refine wq_b (tt_fX12_steps hN I0 L0 M0 k_I0) (fun r10_q27528 h_r10_q27528 => ?_)
                obtain ⟨h_r10_q27528_0, -⟩ := h_r10_q27528
                refine wq_eq (fun hc_27529 => ?_) (fun hc_27530 => ?_)
                · exfalso; omega
                · unfold fX12_readsEntry_J129
                  refine wq_eq (fun hc_27531 => ?_) (fun hc_27532 => ?_)
                  · unfold fX12_readsEntry_J144
                    have l_12 := il_12
                    refine wq_b (tt_fX12_number hN r10_q27528.1 r10_q27528.2.1 r10_q27528.2.2 (0 : Int32) (12 : Int32) h_r10_q27528_0) (fun r7_q27533 h_r7_q27533 => ?_)
                    obtain ⟨h_r7_q27533_0, -⟩ := h_r7_q27533
                    have b_27535 := i32b r7_q27533.1
                    refine wq_v (fun v8_q27534 h_v8_q27534 => ?_)
                    have t_v8_q27534 := congrArg Int32.toInt h_v8_q27534
                    refine wq_eq (fun hc_27536 => ?_) (fun hc_27537 => ?_)
                    · have b_27538 := i32b v8_q27534
                      refine wq_eq (fun hc_27539 => ?_) (fun hc_27540 => ?_)
                      · unfold fX12_readsEntry_J168
                        have l_4 := il_4
                        refine wq_b (tt_fX12_number hN r7_q27533.2.1 r7_q27533.2.2.1 r7_q27533.2.2.2 (0 : Int32) (4 : Int32) h_r7_q27533_0) (fun r3_q27541 h_r3_q27541 => ?_)
                        obtain ⟨h_r3_q27541_0, -⟩ := h_r3_q27541
                        have b_27543 := i32b r3_q27541.1
                        refine wq_v (fun v4_q27542 h_v4_q27542 => ?_)
                        have t_v4_q27542 := congrArg Int32.toInt h_v4_q27542
                        refine wq_b (tt_fX12_isGood hN r3_q27541.2.1 r3_q27541.2.2.1 r3_q27541.2.2.2 h_r3_q27541_0) (fun r5_q27544 h_r5_q27544 => ?_)
                        obtain ⟨h_r5_q27544_0, -⟩ := h_r5_q27544
                        refine wq_eq (fun hc_27545 => ?_) (fun hc_27546 => ?_)
                        · unfold fX12_readsEntry_J193
                          have l_3 := il_3
                          refine wq_eq (fun hc_27547 => ?_) (fun hc_27548 => ?_)
                          · have l_1 := il_1
                            refine wq_b (tt_fX12_need hN r3_q27541.2.1 r3_q27541.2.2.1 r3_q27541.2.2.2 (1 : Int32) h_r3_q27541_0) (fun r2_q27549 h_r2_q27549 => ?_)
                            obtain ⟨h_r2_q27549_0, -⟩ := h_r2_q27549
                            exact wq_s ⟨h_r2_q27549_0, trivial⟩
                          · refine wq_b (tt_fX12_need hN r3_q27541.2.1 r3_q27541.2.2.1 r3_q27541.2.2.2 (0 : Int32) h_r3_q27541_0) (fun r1_q27550 h_r1_q27550 => ?_)
                            obtain ⟨h_r1_q27550_0, -⟩ := h_r1_q27550
                            exact wq_s ⟨h_r1_q27550_0, trivial⟩
                        · refine wq_in (n := 22) ⟨by omega, by omega⟩ ?_
                          refine wq_v (fun M0_6_q27551 h_M0_6_q27551 => ?_)
                          have l_30 := il_30
                          have t_27552 := ia_mul (30 : Int32) (30) il_30 v8_q27534 (by omega) (by omega)
                          have b_27553 := i32b v4_q27542
                          have tn_27554 := tn_of (21 : Int32) (by omega)
                          have k_M0_6_q27551 : KX12 r3_q27541.2.1 M0_6_q27551 := by rw [h_M0_6_q27551]; exact KX12.sm16 h_r3_q27541_0 ⟨by omega, by omega⟩ (DN.um (KX12.edn h_r3_q27541_0) (fun q => by omega))
                          unfold fX12_readsEntry_J193
                          have l_3 := il_3
                          refine wq_eq (fun hc_27555 => ?_) (fun hc_27556 => ?_)
                          · have l_1 := il_1
                            refine wq_b (tt_fX12_need hN r3_q27541.2.1 r3_q27541.2.2.1 M0_6_q27551 (1 : Int32) k_M0_6_q27551) (fun r2_q27557 h_r2_q27557 => ?_)
                            obtain ⟨h_r2_q27557_0, -⟩ := h_r2_q27557
                            exact wq_s ⟨h_r2_q27557_0, trivial⟩
                          · refine wq_b (tt_fX12_need hN r3_q27541.2.1 r3_q27541.2.2.1 M0_6_q27551 (0 : Int32) k_M0_6_q27551) (fun r1_q27558 h_r1_q27558 => ?_)
                            obtain ⟨h_r1_q27558_0, -⟩ := h_r1_q27558
                            exact wq_s ⟨h_r1_q27558_0, trivial⟩
                      · unfold fX12_readsEntry_J166
                        unfold fX12_readsEntry_J168
                        have l_29 := il_29
                        refine wq_b (tt_fX12_number hN r7_q27533.2.1 r7_q27533.2.2.1 r7_q27533.2.2.2 (0 : Int32) (29 : Int32) h_r7_q27533_0) (fun r3_q27559 h_r3_q27559 => ?_)
                        obtain ⟨h_r3_q27559_0, -⟩ := h_r3_q27559
                        have b_27561 := i32b r3_q27559.1
                        refine wq_v (fun v4_q27560 h_v4_q27560 => ?_)
                        have t_v4_q27560 := congrArg Int32.toInt h_v4_q27560
                        refine wq_b (tt_fX12_isGood hN r3_q27559.2.1 r3_q27559.2.2.1 r3_q27559.2.2.2 h_r3_q27559_0) (fun r5_q27562 h_r5_q27562 => ?_)
                        obtain ⟨h_r5_q27562_0, -⟩ := h_r5_q27562
                        refine wq_eq (fun hc_27563 => ?_) (fun hc_27564 => ?_)
                        · unfold fX12_readsEntry_J193
                          have l_3 := il_3
                          refine wq_eq (fun hc_27565 => ?_) (fun hc_27566 => ?_)
                          · have l_1 := il_1
                            refine wq_b (tt_fX12_need hN r3_q27559.2.1 r3_q27559.2.2.1 r3_q27559.2.2.2 (1 : Int32) h_r3_q27559_0) (fun r2_q27567 h_r2_q27567 => ?_)
                            obtain ⟨h_r2_q27567_0, -⟩ := h_r2_q27567
                            exact wq_s ⟨h_r2_q27567_0, trivial⟩
                          · refine wq_b (tt_fX12_need hN r3_q27559.2.1 r3_q27559.2.2.1 r3_q27559.2.2.2 (0 : Int32) h_r3_q27559_0) (fun r1_q27568 h_r1_q27568 => ?_)
                            obtain ⟨h_r1_q27568_0, -⟩ := h_r1_q27568
                            exact wq_s ⟨h_r1_q27568_0, trivial⟩
                        · refine wq_in (n := 22) ⟨by omega, by omega⟩ ?_
                          refine wq_v (fun M0_6_q27569 h_M0_6_q27569 => ?_)
                          have l_30 := il_30
                          have b_27570 := i32b v4_q27560
                          have tn_27571 := tn_of (21 : Int32) (by omega)
                          have k_M0_6_q27569 : KX12 r3_q27559.2.1 M0_6_q27569 := by rw [h_M0_6_q27569]; exact KX12.sm16 h_r3_q27559_0 ⟨by omega, by omega⟩ (DN.um (KX12.edn h_r3_q27559_0) (fun q => by omega))
                          unfold fX12_readsEntry_J193
                          have l_3 := il_3
                          refine wq_eq (fun hc_27572 => ?_) (fun hc_27573 => ?_)
                          · have l_1 := il_1
                            refine wq_b (tt_fX12_need hN r3_q27559.2.1 r3_q27559.2.2.1 M0_6_q27569 (1 : Int32) k_M0_6_q27569) (fun r2_q27574 h_r2_q27574 => ?_)
                            obtain ⟨h_r2_q27574_0, -⟩ := h_r2_q27574
                            exact wq_s ⟨h_r2_q27574_0, trivial⟩
                          · refine wq_b (tt_fX12_need hN r3_q27559.2.1 r3_q27559.2.2.1 M0_6_q27569 (0 : Int32) k_M0_6_q27569) (fun r1_q27575 h_r1_q27575 => ?_)
                            obtain ⟨h_r1_q27575_0, -⟩ := h_r1_q27575
                            exact wq_s ⟨h_r1_q27575_0, trivial⟩
                    · exfalso; omega
                  · exfalso; omega
            · have l_3 := il_3
              refine wq_b (tt_fX12_wrong hN I0 L0 M0 (3 : Int32) k_I0) (fun r18_q27576 h_r18_q27576 => ?_)
              obtain ⟨h_r18_q27576_0, -⟩ := h_r18_q27576
              unfold fX12_readsEntry_J62
              refine wq_b (tt_fX12_isGood hN r18_q27576.1 r18_q27576.2.1 r18_q27576.2.2 h_r18_q27576_0) (fun r9b_q27577 h_r9b_q27577 => ?_)
              obtain ⟨h_r9b_q27577_0, -⟩ := h_r9b_q27577
              refine wq_eq (fun hc_27578 => ?_) (fun hc_27579 => ?_)
              · exact wq_s ⟨h_r18_q27576_0, trivial⟩
              · refine wq_b (tt_fX12_steps hN r18_q27576.1 r18_q27576.2.1 r18_q27576.2.2 h_r18_q27576_0) (fun r10_q27580 h_r10_q27580 => ?_)
                obtain ⟨h_r10_q27580_0, -⟩ := h_r10_q27580
                refine wq_eq (fun hc_27581 => ?_) (fun hc_27582 => ?_)
                · exfalso; omega
                · unfold fX12_readsEntry_J129
                  refine wq_eq (fun hc_27583 => ?_) (fun hc_27584 => ?_)
                  · unfold fX12_readsEntry_J144
                    have l_12 := il_12
                    refine wq_b (tt_fX12_number hN r10_q27580.1 r10_q27580.2.1 r10_q27580.2.2 (0 : Int32) (12 : Int32) h_r10_q27580_0) (fun r7_q27585 h_r7_q27585 => ?_)
                    obtain ⟨h_r7_q27585_0, -⟩ := h_r7_q27585
                    have b_27587 := i32b r7_q27585.1
                    refine wq_v (fun v8_q27586 h_v8_q27586 => ?_)
                    have t_v8_q27586 := congrArg Int32.toInt h_v8_q27586
                    refine wq_eq (fun hc_27588 => ?_) (fun hc_27589 => ?_)
                    · have b_27590 := i32b v8_q27586
                      refine wq_eq (fun hc_27591 => ?_) (fun hc_27592 => ?_)
                      · unfold fX12_readsEntry_J168
                        have l_4 := il_4
                        refine wq_b (tt_fX12_number hN r7_q27585.2.1 r7_q27585.2.2.1 r7_q27585.2.2.2 (0 : Int32) (4 : Int32) h_r7_q27585_0) (fun r3_q27593 h_r3_q27593 => ?_)
                        obtain ⟨h_r3_q27593_0, -⟩ := h_r3_q27593
                        have b_27595 := i32b r3_q27593.1
                        refine wq_v (fun v4_q27594 h_v4_q27594 => ?_)
                        have t_v4_q27594 := congrArg Int32.toInt h_v4_q27594
                        refine wq_b (tt_fX12_isGood hN r3_q27593.2.1 r3_q27593.2.2.1 r3_q27593.2.2.2 h_r3_q27593_0) (fun r5_q27596 h_r5_q27596 => ?_)
                        obtain ⟨h_r5_q27596_0, -⟩ := h_r5_q27596
                        refine wq_eq (fun hc_27597 => ?_) (fun hc_27598 => ?_)
                        · unfold fX12_readsEntry_J193
                          refine wq_eq (fun hc_27599 => ?_) (fun hc_27600 => ?_)
                          · have l_1 := il_1
                            refine wq_b (tt_fX12_need hN r3_q27593.2.1 r3_q27593.2.2.1 r3_q27593.2.2.2 (1 : Int32) h_r3_q27593_0) (fun r2_q27601 h_r2_q27601 => ?_)
                            obtain ⟨h_r2_q27601_0, -⟩ := h_r2_q27601
                            exact wq_s ⟨h_r2_q27601_0, trivial⟩
                          · refine wq_b (tt_fX12_need hN r3_q27593.2.1 r3_q27593.2.2.1 r3_q27593.2.2.2 (0 : Int32) h_r3_q27593_0) (fun r1_q27602 h_r1_q27602 => ?_)
                            obtain ⟨h_r1_q27602_0, -⟩ := h_r1_q27602
                            exact wq_s ⟨h_r1_q27602_0, trivial⟩
                        · refine wq_in (n := 22) ⟨by omega, by omega⟩ ?_
                          refine wq_v (fun M0_6_q27603 h_M0_6_q27603 => ?_)
                          have l_30 := il_30
                          have t_27604 := ia_mul (30 : Int32) (30) il_30 v8_q27586 (by omega) (by omega)
                          have b_27605 := i32b v4_q27594
                          have tn_27606 := tn_of (21 : Int32) (by omega)
                          have k_M0_6_q27603 : KX12 r3_q27593.2.1 M0_6_q27603 := by rw [h_M0_6_q27603]; exact KX12.sm16 h_r3_q27593_0 ⟨by omega, by omega⟩ (DN.um (KX12.edn h_r3_q27593_0) (fun q => by omega))
                          unfold fX12_readsEntry_J193
                          refine wq_eq (fun hc_27607 => ?_) (fun hc_27608 => ?_)
                          · have l_1 := il_1
                            refine wq_b (tt_fX12_need hN r3_q27593.2.1 r3_q27593.2.2.1 M0_6_q27603 (1 : Int32) k_M0_6_q27603) (fun r2_q27609 h_r2_q27609 => ?_)
                            obtain ⟨h_r2_q27609_0, -⟩ := h_r2_q27609
                            exact wq_s ⟨h_r2_q27609_0, trivial⟩
                          · refine wq_b (tt_fX12_need hN r3_q27593.2.1 r3_q27593.2.2.1 M0_6_q27603 (0 : Int32) k_M0_6_q27603) (fun r1_q27610 h_r1_q27610 => ?_)
                            obtain ⟨h_r1_q27610_0, -⟩ := h_r1_q27610
                            exact wq_s ⟨h_r1_q27610_0, trivial⟩
                      · unfold fX12_readsEntry_J166
                        unfold fX12_readsEntry_J168
                        have l_29 := il_29
                        refine wq_b (tt_fX12_number hN r7_q27585.2.1 r7_q27585.2.2.1 r7_q27585.2.2.2 (0 : Int32) (29 : Int32) h_r7_q27585_0) (fun r3_q27611 h_r3_q27611 => ?_)
                        obtain ⟨h_r3_q27611_0, -⟩ := h_r3_q27611
                        have b_27613 := i32b r3_q27611.1
                        refine wq_v (fun v4_q27612 h_v4_q27612 => ?_)
                        have t_v4_q27612 := congrArg Int32.toInt h_v4_q27612
                        refine wq_b (tt_fX12_isGood hN r3_q27611.2.1 r3_q27611.2.2.1 r3_q27611.2.2.2 h_r3_q27611_0) (fun r5_q27614 h_r5_q27614 => ?_)
                        obtain ⟨h_r5_q27614_0, -⟩ := h_r5_q27614
                        refine wq_eq (fun hc_27615 => ?_) (fun hc_27616 => ?_)
                        · unfold fX12_readsEntry_J193
                          refine wq_eq (fun hc_27617 => ?_) (fun hc_27618 => ?_)
                          · have l_1 := il_1
                            refine wq_b (tt_fX12_need hN r3_q27611.2.1 r3_q27611.2.2.1 r3_q27611.2.2.2 (1 : Int32) h_r3_q27611_0) (fun r2_q27619 h_r2_q27619 => ?_)
                            obtain ⟨h_r2_q27619_0, -⟩ := h_r2_q27619
                            exact wq_s ⟨h_r2_q27619_0, trivial⟩
                          · refine wq_b (tt_fX12_need hN r3_q27611.2.1 r3_q27611.2.2.1 r3_q27611.2.2.2 (0 : Int32) h_r3_q27611_0) (fun r1_q27620 h_r1_q27620 => ?_)
                            obtain ⟨h_r1_q27620_0, -⟩ := h_r1_q27620
                            exact wq_s ⟨h_r1_q27620_0, trivial⟩
                        · refine wq_in (n := 22) ⟨by omega, by omega⟩ ?_
                          refine wq_v (fun M0_6_q27621 h_M0_6_q27621 => ?_)
                          have l_30 := il_30
                          have b_27622 := i32b v4_q27612
                          have tn_27623 := tn_of (21 : Int32) (by omega)
                          have k_M0_6_q27621 : KX12 r3_q27611.2.1 M0_6_q27621 := by rw [h_M0_6_q27621]; exact KX12.sm16 h_r3_q27611_0 ⟨by omega, by omega⟩ (DN.um (KX12.edn h_r3_q27611_0) (fun q => by omega))
                          unfold fX12_readsEntry_J193
                          refine wq_eq (fun hc_27624 => ?_) (fun hc_27625 => ?_)
                          · have l_1 := il_1
                            refine wq_b (tt_fX12_need hN r3_q27611.2.1 r3_q27611.2.2.1 M0_6_q27621 (1 : Int32) k_M0_6_q27621) (fun r2_q27626 h_r2_q27626 => ?_)
                            obtain ⟨h_r2_q27626_0, -⟩ := h_r2_q27626
                            exact wq_s ⟨h_r2_q27626_0, trivial⟩
                          · refine wq_b (tt_fX12_need hN r3_q27611.2.1 r3_q27611.2.2.1 M0_6_q27621 (0 : Int32) k_M0_6_q27621) (fun r1_q27627 h_r1_q27627 => ?_)
                            obtain ⟨h_r1_q27627_0, -⟩ := h_r1_q27627
                            exact wq_s ⟨h_r1_q27627_0, trivial⟩
                    · exfalso; omega
                  · exfalso; omega
        · unfold fX12_readsEntry_J40
          have l_9 := il_9
          refine wq_eq (fun hc_27628 => ?_) (fun hc_27629 => ?_)
          · unfold fX12_readsEntry_J62
            refine wq_b (tt_fX12_isGood hN I0 L0 M0 k_I0) (fun r9b_q27630 h_r9b_q27630 => ?_)
            obtain ⟨h_r9b_q27630_0, -⟩ := h_r9b_q27630
            refine wq_eq (fun hc_27631 => ?_) (fun hc_27632 => ?_)
            · exact wq_s ⟨k_I0, trivial⟩
            · refine wq_b (tt_fX12_steps hN I0 L0 M0 k_I0) (fun r10_q27633 h_r10_q27633 => ?_)
              obtain ⟨h_r10_q27633_0, -⟩ := h_r10_q27633
              refine wq_eq (fun hc_27634 => ?_) (fun hc_27635 => ?_)
              · refine wq_v (fun v11_q27636 h_v11_q27636 => ?_)
                have t_v11_q27636 := congrArg Int32.toInt h_v11_q27636
                have l_1 := il_1
                have l_12 := il_12
                refine wq_b (tt_fX12_number hN r10_q27633.1 r10_q27633.2.1 r10_q27633.2.2 (1 : Int32) (12 : Int32) h_r10_q27633_0) (fun r12_q27637 h_r12_q27637 => ?_)
                obtain ⟨h_r12_q27637_0, -⟩ := h_r12_q27637
                have b_27639 := i32b r12_q27637.1
                refine wq_v (fun v13_q27638 h_v13_q27638 => ?_)
                have t_v13_q27638 := congrArg Int32.toInt h_v13_q27638
                have b_27641 := i32b v13_q27638
                refine wq_v (fun v14_q27640 h_v14_q27640 => ?_)
                have t_v14_q27640 := congrArg Int32.toInt h_v14_q27640
                refine wq_b (tt_fX12_isGood hN r12_q27637.2.1 r12_q27637.2.2.1 r12_q27637.2.2.2 h_r12_q27637_0) (fun r15_q27642 h_r15_q27642 => ?_)
                obtain ⟨h_r15_q27642_0, -⟩ := h_r15_q27642
                refine wq_eq (fun hc_27643 => ?_) (fun hc_27644 => ?_)
                · unfold fX12_readsEntry_J129
                  refine wq_eq (fun hc_27645 => ?_) (fun hc_27646 => ?_)
                  · exfalso; omega
                  · unfold fX12_readsEntry_J144
                    have l_11 := il_11
                    refine wq_b (tt_fX12_number hN r12_q27637.2.1 r12_q27637.2.2.1 r12_q27637.2.2.2 (0 : Int32) (11 : Int32) h_r12_q27637_0) (fun r7_q27647 h_r7_q27647 => ?_)
                    obtain ⟨h_r7_q27647_0, -⟩ := h_r7_q27647
                    have b_27649 := i32b r7_q27647.1
                    refine wq_v (fun v8_q27648 h_v8_q27648 => ?_)
                    have t_v8_q27648 := congrArg Int32.toInt h_v8_q27648
                    refine wq_eq (fun hc_27650 => ?_) (fun hc_27651 => ?_)
                    · exfalso; omega
                    · unfold fX12_readsEntry_J166
                      unfold fX12_readsEntry_J168
                      have l_29 := il_29
                      refine wq_b (tt_fX12_number hN r7_q27647.2.1 r7_q27647.2.2.1 r7_q27647.2.2.2 (0 : Int32) (29 : Int32) h_r7_q27647_0) (fun r3_q27652 h_r3_q27652 => ?_)
                      obtain ⟨h_r3_q27652_0, -⟩ := h_r3_q27652
                      have b_27654 := i32b r3_q27652.1
                      refine wq_v (fun v4_q27653 h_v4_q27653 => ?_)
                      have t_v4_q27653 := congrArg Int32.toInt h_v4_q27653
                      refine wq_b (tt_fX12_isGood hN r3_q27652.2.1 r3_q27652.2.2.1 r3_q27652.2.2.2 h_r3_q27652_0) (fun r5_q27655 h_r5_q27655 => ?_)
                      obtain ⟨h_r5_q27655_0, -⟩ := h_r5_q27655
                      refine wq_eq (fun hc_27656 => ?_) (fun hc_27657 => ?_)
                      · unfold fX12_readsEntry_J193
                        have l_3 := il_3
                        refine wq_eq (fun hc_27658 => ?_) (fun hc_27659 => ?_)
                        · refine wq_b (tt_fX12_need hN r3_q27652.2.1 r3_q27652.2.2.1 r3_q27652.2.2.2 (1 : Int32) h_r3_q27652_0) (fun r2_q27660 h_r2_q27660 => ?_)
                          obtain ⟨h_r2_q27660_0, -⟩ := h_r2_q27660
                          exact wq_s ⟨h_r2_q27660_0, trivial⟩
                        · refine wq_b (tt_fX12_need hN r3_q27652.2.1 r3_q27652.2.2.1 r3_q27652.2.2.2 (0 : Int32) h_r3_q27652_0) (fun r1_q27661 h_r1_q27661 => ?_)
                          obtain ⟨h_r1_q27661_0, -⟩ := h_r1_q27661
                          exact wq_s ⟨h_r1_q27661_0, trivial⟩
                      · have b_27662 := i32b v14_q27640
                        refine wq_in (n := 22) ⟨by omega, by omega⟩ ?_
                        refine wq_v (fun M0_6_q27663 h_M0_6_q27663 => ?_)
                        have b_27664 := i32b v8_q27648
                        have l_30 := il_30
                        have b_27665 := i32b v4_q27653
                        have tn_27666 := tn_of v14_q27640 (by omega)
                        have k_M0_6_q27663 : KX12 r3_q27652.2.1 M0_6_q27663 := by rw [h_M0_6_q27663]; exact KX12.sm16 h_r3_q27652_0 ⟨by omega, by omega⟩ (DN.um (KX12.edn h_r3_q27652_0) (fun q => by omega))
                        unfold fX12_readsEntry_J193
                        have l_3 := il_3
                        refine wq_eq (fun hc_27667 => ?_) (fun hc_27668 => ?_)
                        · refine wq_b (tt_fX12_need hN r3_q27652.2.1 r3_q27652.2.2.1 M0_6_q27663 (1 : Int32) k_M0_6_q27663) (fun r2_q27669 h_r2_q27669 => ?_)
                          obtain ⟨h_r2_q27669_0, -⟩ := h_r2_q27669
                          exact wq_s ⟨h_r2_q27669_0, trivial⟩
                        · refine wq_b (tt_fX12_need hN r3_q27652.2.1 r3_q27652.2.2.1 M0_6_q27663 (0 : Int32) k_M0_6_q27663) (fun r1_q27670 h_r1_q27670 => ?_)
                          obtain ⟨h_r1_q27670_0, -⟩ := h_r1_q27670
                          exact wq_s ⟨h_r1_q27670_0, trivial⟩
                · have b_27671 := i32b v14_q27640
                  refine wq_in (n := 22) ⟨by omega, by omega⟩ ?_
                  have t_27672 := KX12.m16 h_r12_q27637_0 v14_q27640.toNatClampNeg
                  have l_m1 := il_m1
                  refine wq_eq (fun hc_27673 => ?_) (fun hc_27674 => ?_)
                  · unfold fX12_readsEntry_J129
                    refine wq_eq (fun hc_27675 => ?_) (fun hc_27676 => ?_)
                    · exfalso; omega
                    · unfold fX12_readsEntry_J144
                      have l_11 := il_11
                      refine wq_b (tt_fX12_number hN r12_q27637.2.1 r12_q27637.2.2.1 r12_q27637.2.2.2 (0 : Int32) (11 : Int32) h_r12_q27637_0) (fun r7_q27677 h_r7_q27677 => ?_)
                      obtain ⟨h_r7_q27677_0, -⟩ := h_r7_q27677
                      have b_27679 := i32b r7_q27677.1
                      refine wq_v (fun v8_q27678 h_v8_q27678 => ?_)
                      have t_v8_q27678 := congrArg Int32.toInt h_v8_q27678
                      refine wq_eq (fun hc_27680 => ?_) (fun hc_27681 => ?_)
                      · exfalso; omega
                      · unfold fX12_readsEntry_J166
                        unfold fX12_readsEntry_J168
                        have l_29 := il_29
                        refine wq_b (tt_fX12_number hN r7_q27677.2.1 r7_q27677.2.2.1 r7_q27677.2.2.2 (0 : Int32) (29 : Int32) h_r7_q27677_0) (fun r3_q27682 h_r3_q27682 => ?_)
                        obtain ⟨h_r3_q27682_0, -⟩ := h_r3_q27682
                        have b_27684 := i32b r3_q27682.1
                        refine wq_v (fun v4_q27683 h_v4_q27683 => ?_)
                        have t_v4_q27683 := congrArg Int32.toInt h_v4_q27683
                        refine wq_b (tt_fX12_isGood hN r3_q27682.2.1 r3_q27682.2.2.1 r3_q27682.2.2.2 h_r3_q27682_0) (fun r5_q27685 h_r5_q27685 => ?_)
                        obtain ⟨h_r5_q27685_0, -⟩ := h_r5_q27685
                        refine wq_eq (fun hc_27686 => ?_) (fun hc_27687 => ?_)
                        · unfold fX12_readsEntry_J193
                          have l_3 := il_3
                          refine wq_eq (fun hc_27688 => ?_) (fun hc_27689 => ?_)
                          · refine wq_b (tt_fX12_need hN r3_q27682.2.1 r3_q27682.2.2.1 r3_q27682.2.2.2 (1 : Int32) h_r3_q27682_0) (fun r2_q27690 h_r2_q27690 => ?_)
                            obtain ⟨h_r2_q27690_0, -⟩ := h_r2_q27690
                            exact wq_s ⟨h_r2_q27690_0, trivial⟩
                          · refine wq_b (tt_fX12_need hN r3_q27682.2.1 r3_q27682.2.2.1 r3_q27682.2.2.2 (0 : Int32) h_r3_q27682_0) (fun r1_q27691 h_r1_q27691 => ?_)
                            obtain ⟨h_r1_q27691_0, -⟩ := h_r1_q27691
                            exact wq_s ⟨h_r1_q27691_0, trivial⟩
                        · refine wq_in (n := 22) ⟨by omega, by omega⟩ ?_
                          refine wq_v (fun M0_6_q27692 h_M0_6_q27692 => ?_)
                          have b_27693 := i32b v8_q27678
                          have l_30 := il_30
                          have b_27694 := i32b v4_q27683
                          have tn_27695 := tn_of v14_q27640 (by omega)
                          have k_M0_6_q27692 : KX12 r3_q27682.2.1 M0_6_q27692 := by rw [h_M0_6_q27692]; exact KX12.sm16 h_r3_q27682_0 ⟨by omega, by omega⟩ (DN.um (KX12.edn h_r3_q27682_0) (fun q => by omega))
                          unfold fX12_readsEntry_J193
                          have l_3 := il_3
                          refine wq_eq (fun hc_27696 => ?_) (fun hc_27697 => ?_)
                          · refine wq_b (tt_fX12_need hN r3_q27682.2.1 r3_q27682.2.2.1 M0_6_q27692 (1 : Int32) k_M0_6_q27692) (fun r2_q27698 h_r2_q27698 => ?_)
                            obtain ⟨h_r2_q27698_0, -⟩ := h_r2_q27698
                            exact wq_s ⟨h_r2_q27698_0, trivial⟩
                          · refine wq_b (tt_fX12_need hN r3_q27682.2.1 r3_q27682.2.2.1 M0_6_q27692 (0 : Int32) k_M0_6_q27692) (fun r1_q27699 h_r1_q27699 => ?_)
                            obtain ⟨h_r1_q27699_0, -⟩ := h_r1_q27699
                            exact wq_s ⟨h_r1_q27699_0, trivial⟩
                  · refine wq_v (fun I0_16_q27700 h_I0_16_q27700 => ?_)
                    have k_I0_16_q27700 : KX12 I0_16_q27700 r12_q27637.2.2.2 := by rw [h_I0_16_q27700]; exact KX12.si4 h_r12_q27637_0
                    refine wq_v (fun I0_17_q27701 h_I0_17_q27701 => ?_)
                    have k_I0_17_q27701 : KX12 I0_17_q27701 r12_q27637.2.2.2 := by rw [h_I0_17_q27701]; exact KX12.si5 k_I0_16_q27700
                    unfold fX12_readsEntry_J129
                    refine wq_eq (fun hc_27702 => ?_) (fun hc_27703 => ?_)
                    · exfalso; omega
                    · unfold fX12_readsEntry_J144
                      have l_11 := il_11
                      refine wq_b (tt_fX12_number hN I0_17_q27701 r12_q27637.2.2.1 r12_q27637.2.2.2 (0 : Int32) (11 : Int32) k_I0_17_q27701) (fun r7_q27704 h_r7_q27704 => ?_)
                      obtain ⟨h_r7_q27704_0, -⟩ := h_r7_q27704
                      have b_27706 := i32b r7_q27704.1
                      refine wq_v (fun v8_q27705 h_v8_q27705 => ?_)
                      have t_v8_q27705 := congrArg Int32.toInt h_v8_q27705
                      refine wq_eq (fun hc_27707 => ?_) (fun hc_27708 => ?_)
                      · exfalso; omega
                      · unfold fX12_readsEntry_J166
                        unfold fX12_readsEntry_J168
                        have l_29 := il_29
                        refine wq_b (tt_fX12_number hN r7_q27704.2.1 r7_q27704.2.2.1 r7_q27704.2.2.2 (0 : Int32) (29 : Int32) h_r7_q27704_0) (fun r3_q27709 h_r3_q27709 => ?_)
                        obtain ⟨h_r3_q27709_0, -⟩ := h_r3_q27709
                        have b_27711 := i32b r3_q27709.1
                        refine wq_v (fun v4_q27710 h_v4_q27710 => ?_)
                        have t_v4_q27710 := congrArg Int32.toInt h_v4_q27710
                        refine wq_b (tt_fX12_isGood hN r3_q27709.2.1 r3_q27709.2.2.1 r3_q27709.2.2.2 h_r3_q27709_0) (fun r5_q27712 h_r5_q27712 => ?_)
                        obtain ⟨h_r5_q27712_0, -⟩ := h_r5_q27712
                        refine wq_eq (fun hc_27713 => ?_) (fun hc_27714 => ?_)
                        · unfold fX12_readsEntry_J193
                          have l_3 := il_3
                          refine wq_eq (fun hc_27715 => ?_) (fun hc_27716 => ?_)
                          · refine wq_b (tt_fX12_need hN r3_q27709.2.1 r3_q27709.2.2.1 r3_q27709.2.2.2 (1 : Int32) h_r3_q27709_0) (fun r2_q27717 h_r2_q27717 => ?_)
                            obtain ⟨h_r2_q27717_0, -⟩ := h_r2_q27717
                            exact wq_s ⟨h_r2_q27717_0, trivial⟩
                          · refine wq_b (tt_fX12_need hN r3_q27709.2.1 r3_q27709.2.2.1 r3_q27709.2.2.2 (0 : Int32) h_r3_q27709_0) (fun r1_q27718 h_r1_q27718 => ?_)
                            obtain ⟨h_r1_q27718_0, -⟩ := h_r1_q27718
                            exact wq_s ⟨h_r1_q27718_0, trivial⟩
                        · refine wq_in (n := 22) ⟨by omega, by omega⟩ ?_
                          refine wq_v (fun M0_6_q27719 h_M0_6_q27719 => ?_)
                          have b_27720 := i32b v8_q27705
                          have l_30 := il_30
                          have b_27721 := i32b v4_q27710
                          have tn_27722 := tn_of v14_q27640 (by omega)
                          have k_M0_6_q27719 : KX12 r3_q27709.2.1 M0_6_q27719 := by rw [h_M0_6_q27719]; exact KX12.sm16 h_r3_q27709_0 ⟨by omega, by omega⟩ (DN.um (KX12.edn h_r3_q27709_0) (fun q => by omega))
                          unfold fX12_readsEntry_J193
                          have l_3 := il_3
                          refine wq_eq (fun hc_27723 => ?_) (fun hc_27724 => ?_)
                          · refine wq_b (tt_fX12_need hN r3_q27709.2.1 r3_q27709.2.2.1 M0_6_q27719 (1 : Int32) k_M0_6_q27719) (fun r2_q27725 h_r2_q27725 => ?_)
                            obtain ⟨h_r2_q27725_0, -⟩ := h_r2_q27725
                            exact wq_s ⟨h_r2_q27725_0, trivial⟩
                          · refine wq_b (tt_fX12_need hN r3_q27709.2.1 r3_q27709.2.2.1 M0_6_q27719 (0 : Int32) k_M0_6_q27719) (fun r1_q27726 h_r1_q27726 => ?_)
                            obtain ⟨h_r1_q27726_0, -⟩ := h_r1_q27726
                            exact wq_s ⟨h_r1_q27726_0, trivial⟩
              · exfalso; omega
          · refine wq_in (n := 22) ⟨by omega, by omega⟩ ?_
            have t_27727 := KX12.m16 k_I0 r21_q27436.toNatClampNeg
            have l_m1 := il_m1
            refine wq_eq (fun hc_27728 => ?_) (fun hc_27729 => ?_)
            · unfold fX12_readsEntry_J62
              refine wq_b (tt_fX12_isGood hN I0 L0 M0 k_I0) (fun r9b_q27730 h_r9b_q27730 => ?_)
              obtain ⟨h_r9b_q27730_0, -⟩ := h_r9b_q27730
              refine wq_eq (fun hc_27731 => ?_) (fun hc_27732 => ?_)
              · exact wq_s ⟨k_I0, trivial⟩
              · refine wq_b (tt_fX12_steps hN I0 L0 M0 k_I0) (fun r10_q27733 h_r10_q27733 => ?_)
                obtain ⟨h_r10_q27733_0, -⟩ := h_r10_q27733
                refine wq_eq (fun hc_27734 => ?_) (fun hc_27735 => ?_)
                · exfalso; omega
                · unfold fX12_readsEntry_J129
                  refine wq_eq (fun hc_27736 => ?_) (fun hc_27737 => ?_)
                  · exfalso; omega
                  · unfold fX12_readsEntry_J144
                    have l_11 := il_11
                    refine wq_b (tt_fX12_number hN r10_q27733.1 r10_q27733.2.1 r10_q27733.2.2 (0 : Int32) (11 : Int32) h_r10_q27733_0) (fun r7_q27738 h_r7_q27738 => ?_)
                    obtain ⟨h_r7_q27738_0, -⟩ := h_r7_q27738
                    have b_27740 := i32b r7_q27738.1
                    refine wq_v (fun v8_q27739 h_v8_q27739 => ?_)
                    have t_v8_q27739 := congrArg Int32.toInt h_v8_q27739
                    refine wq_eq (fun hc_27741 => ?_) (fun hc_27742 => ?_)
                    · exfalso; omega
                    · unfold fX12_readsEntry_J166
                      unfold fX12_readsEntry_J168
                      have l_29 := il_29
                      refine wq_b (tt_fX12_number hN r7_q27738.2.1 r7_q27738.2.2.1 r7_q27738.2.2.2 (0 : Int32) (29 : Int32) h_r7_q27738_0) (fun r3_q27743 h_r3_q27743 => ?_)
                      obtain ⟨h_r3_q27743_0, -⟩ := h_r3_q27743
                      have b_27745 := i32b r3_q27743.1
                      refine wq_v (fun v4_q27744 h_v4_q27744 => ?_)
                      have t_v4_q27744 := congrArg Int32.toInt h_v4_q27744
                      refine wq_b (tt_fX12_isGood hN r3_q27743.2.1 r3_q27743.2.2.1 r3_q27743.2.2.2 h_r3_q27743_0) (fun r5_q27746 h_r5_q27746 => ?_)
                      obtain ⟨h_r5_q27746_0, -⟩ := h_r5_q27746
                      refine wq_eq (fun hc_27747 => ?_) (fun hc_27748 => ?_)
                      · unfold fX12_readsEntry_J193
                        have l_3 := il_3
                        refine wq_eq (fun hc_27749 => ?_) (fun hc_27750 => ?_)
                        · have l_1 := il_1
                          refine wq_b (tt_fX12_need hN r3_q27743.2.1 r3_q27743.2.2.1 r3_q27743.2.2.2 (1 : Int32) h_r3_q27743_0) (fun r2_q27751 h_r2_q27751 => ?_)
                          obtain ⟨h_r2_q27751_0, -⟩ := h_r2_q27751
                          exact wq_s ⟨h_r2_q27751_0, trivial⟩
                        · refine wq_b (tt_fX12_need hN r3_q27743.2.1 r3_q27743.2.2.1 r3_q27743.2.2.2 (0 : Int32) h_r3_q27743_0) (fun r1_q27752 h_r1_q27752 => ?_)
                          obtain ⟨h_r1_q27752_0, -⟩ := h_r1_q27752
                          exact wq_s ⟨h_r1_q27752_0, trivial⟩
                      · refine wq_in (n := 22) ⟨by omega, by omega⟩ ?_
                        refine wq_v (fun M0_6_q27753 h_M0_6_q27753 => ?_)
                        have b_27754 := i32b v8_q27739
                        have l_30 := il_30
                        have b_27755 := i32b v4_q27744
                        have tn_27756 := tn_of r21_q27436 (by omega)
                        have k_M0_6_q27753 : KX12 r3_q27743.2.1 M0_6_q27753 := by rw [h_M0_6_q27753]; exact KX12.sm16 h_r3_q27743_0 ⟨by omega, by omega⟩ (DN.um (KX12.edn h_r3_q27743_0) (fun q => by omega))
                        unfold fX12_readsEntry_J193
                        have l_3 := il_3
                        refine wq_eq (fun hc_27757 => ?_) (fun hc_27758 => ?_)
                        · have l_1 := il_1
                          refine wq_b (tt_fX12_need hN r3_q27743.2.1 r3_q27743.2.2.1 M0_6_q27753 (1 : Int32) k_M0_6_q27753) (fun r2_q27759 h_r2_q27759 => ?_)
                          obtain ⟨h_r2_q27759_0, -⟩ := h_r2_q27759
                          exact wq_s ⟨h_r2_q27759_0, trivial⟩
                        · refine wq_b (tt_fX12_need hN r3_q27743.2.1 r3_q27743.2.2.1 M0_6_q27753 (0 : Int32) k_M0_6_q27753) (fun r1_q27760 h_r1_q27760 => ?_)
                          obtain ⟨h_r1_q27760_0, -⟩ := h_r1_q27760
                          exact wq_s ⟨h_r1_q27760_0, trivial⟩
            · have l_3 := il_3
              refine wq_b (tt_fX12_wrong hN I0 L0 M0 (3 : Int32) k_I0) (fun r18_q27761 h_r18_q27761 => ?_)
              obtain ⟨h_r18_q27761_0, -⟩ := h_r18_q27761
              unfold fX12_readsEntry_J62
              refine wq_b (tt_fX12_isGood hN r18_q27761.1 r18_q27761.2.1 r18_q27761.2.2 h_r18_q27761_0) (fun r9b_q27762 h_r9b_q27762 => ?_)
              obtain ⟨h_r9b_q27762_0, -⟩ := h_r9b_q27762
              refine wq_eq (fun hc_27763 => ?_) (fun hc_27764 => ?_)
              · exact wq_s ⟨h_r18_q27761_0, trivial⟩
              · refine wq_b (tt_fX12_steps hN r18_q27761.1 r18_q27761.2.1 r18_q27761.2.2 h_r18_q27761_0) (fun r10_q27765 h_r10_q27765 => ?_)
                obtain ⟨h_r10_q27765_0, -⟩ := h_r10_q27765
                refine wq_eq (fun hc_27766 => ?_) (fun hc_27767 => ?_)
                · exfalso; omega
                · unfold fX12_readsEntry_J129
                  refine wq_eq (fun hc_27768 => ?_) (fun hc_27769 => ?_)
                  · exfalso; omega
                  · unfold fX12_readsEntry_J144
                    have l_11 := il_11
                    refine wq_b (tt_fX12_number hN r10_q27765.1 r10_q27765.2.1 r10_q27765.2.2 (0 : Int32) (11 : Int32) h_r10_q27765_0) (fun r7_q27770 h_r7_q27770 => ?_)
                    obtain ⟨h_r7_q27770_0, -⟩ := h_r7_q27770
                    have b_27772 := i32b r7_q27770.1
                    refine wq_v (fun v8_q27771 h_v8_q27771 => ?_)
                    have t_v8_q27771 := congrArg Int32.toInt h_v8_q27771
                    refine wq_eq (fun hc_27773 => ?_) (fun hc_27774 => ?_)
                    · exfalso; omega
                    · unfold fX12_readsEntry_J166
                      unfold fX12_readsEntry_J168
                      have l_29 := il_29
                      refine wq_b (tt_fX12_number hN r7_q27770.2.1 r7_q27770.2.2.1 r7_q27770.2.2.2 (0 : Int32) (29 : Int32) h_r7_q27770_0) (fun r3_q27775 h_r3_q27775 => ?_)
                      obtain ⟨h_r3_q27775_0, -⟩ := h_r3_q27775
                      have b_27777 := i32b r3_q27775.1
                      refine wq_v (fun v4_q27776 h_v4_q27776 => ?_)
                      have t_v4_q27776 := congrArg Int32.toInt h_v4_q27776
                      refine wq_b (tt_fX12_isGood hN r3_q27775.2.1 r3_q27775.2.2.1 r3_q27775.2.2.2 h_r3_q27775_0) (fun r5_q27778 h_r5_q27778 => ?_)
                      obtain ⟨h_r5_q27778_0, -⟩ := h_r5_q27778
                      refine wq_eq (fun hc_27779 => ?_) (fun hc_27780 => ?_)
                      · unfold fX12_readsEntry_J193
                        refine wq_eq (fun hc_27781 => ?_) (fun hc_27782 => ?_)
                        · have l_1 := il_1
                          refine wq_b (tt_fX12_need hN r3_q27775.2.1 r3_q27775.2.2.1 r3_q27775.2.2.2 (1 : Int32) h_r3_q27775_0) (fun r2_q27783 h_r2_q27783 => ?_)
                          obtain ⟨h_r2_q27783_0, -⟩ := h_r2_q27783
                          exact wq_s ⟨h_r2_q27783_0, trivial⟩
                        · refine wq_b (tt_fX12_need hN r3_q27775.2.1 r3_q27775.2.2.1 r3_q27775.2.2.2 (0 : Int32) h_r3_q27775_0) (fun r1_q27784 h_r1_q27784 => ?_)
                          obtain ⟨h_r1_q27784_0, -⟩ := h_r1_q27784
                          exact wq_s ⟨h_r1_q27784_0, trivial⟩
                      · refine wq_in (n := 22) ⟨by omega, by omega⟩ ?_
                        refine wq_v (fun M0_6_q27785 h_M0_6_q27785 => ?_)
                        have b_27786 := i32b v8_q27771
                        have l_30 := il_30
                        have b_27787 := i32b v4_q27776
                        have tn_27788 := tn_of r21_q27436 (by omega)
                        have k_M0_6_q27785 : KX12 r3_q27775.2.1 M0_6_q27785 := by rw [h_M0_6_q27785]; exact KX12.sm16 h_r3_q27775_0 ⟨by omega, by omega⟩ (DN.um (KX12.edn h_r3_q27775_0) (fun q => by omega))
                        unfold fX12_readsEntry_J193
                        refine wq_eq (fun hc_27789 => ?_) (fun hc_27790 => ?_)
                        · have l_1 := il_1
                          refine wq_b (tt_fX12_need hN r3_q27775.2.1 r3_q27775.2.2.1 M0_6_q27785 (1 : Int32) k_M0_6_q27785) (fun r2_q27791 h_r2_q27791 => ?_)
                          obtain ⟨h_r2_q27791_0, -⟩ := h_r2_q27791
                          exact wq_s ⟨h_r2_q27791_0, trivial⟩
                        · refine wq_b (tt_fX12_need hN r3_q27775.2.1 r3_q27775.2.2.1 M0_6_q27785 (0 : Int32) k_M0_6_q27785) (fun r1_q27792 h_r1_q27792 => ?_)
                          obtain ⟨h_r1_q27792_0, -⟩ := h_r1_q27792
                          exact wq_s ⟨h_r1_q27792_0, trivial⟩
    · unfold fX12_readsEntry_J15
      have l_1 := il_1
      refine wq_b (tt_fX12_wrong hN I0 L0 M0 (1 : Int32) k_I0) (fun r20_q27793 h_r20_q27793 => ?_)
      obtain ⟨h_r20_q27793_0, -⟩ := h_r20_q27793
      unfold fX12_readsEntry_J20
      refine wq_b (tt_fX12_isGood hN r20_q27793.1 r20_q27793.2.1 r20_q27793.2.2 h_r20_q27793_0) (fun r19_q27794 h_r19_q27794 => ?_)
      obtain ⟨h_r19_q27794_0, -⟩ := h_r19_q27794
      refine wq_eq (fun hc_27795 => ?_) (fun hc_27796 => ?_)
      · exact wq_s ⟨h_r20_q27793_0, trivial⟩
      · refine wq_eq (fun hc_27797 => ?_) (fun hc_27798 => ?_)
        · exfalso; omega
        · unfold fX12_readsEntry_J40
          have l_9 := il_9
          refine wq_eq (fun hc_27799 => ?_) (fun hc_27800 => ?_)
          · exfalso; omega
          · refine wq_in (n := 22) ⟨by omega, by omega⟩ ?_
            have t_27801 := KX12.m16 h_r20_q27793_0 r21_q27436.toNatClampNeg
            have l_m1 := il_m1
            refine wq_eq (fun hc_27802 => ?_) (fun hc_27803 => ?_)
            · unfold fX12_readsEntry_J62
              refine wq_b (tt_fX12_isGood hN r20_q27793.1 r20_q27793.2.1 r20_q27793.2.2 h_r20_q27793_0) (fun r9b_q27804 h_r9b_q27804 => ?_)
              obtain ⟨h_r9b_q27804_0, -⟩ := h_r9b_q27804
              refine wq_eq (fun hc_27805 => ?_) (fun hc_27806 => ?_)
              · exact wq_s ⟨h_r20_q27793_0, trivial⟩
              · refine wq_b (tt_fX12_steps hN r20_q27793.1 r20_q27793.2.1 r20_q27793.2.2 h_r20_q27793_0) (fun r10_q27807 h_r10_q27807 => ?_)
                obtain ⟨h_r10_q27807_0, -⟩ := h_r10_q27807
                refine wq_eq (fun hc_27808 => ?_) (fun hc_27809 => ?_)
                · exfalso; omega
                · unfold fX12_readsEntry_J129
                  refine wq_eq (fun hc_27810 => ?_) (fun hc_27811 => ?_)
                  · exfalso; omega
                  · unfold fX12_readsEntry_J144
                    have l_11 := il_11
                    refine wq_b (tt_fX12_number hN r10_q27807.1 r10_q27807.2.1 r10_q27807.2.2 (0 : Int32) (11 : Int32) h_r10_q27807_0) (fun r7_q27812 h_r7_q27812 => ?_)
                    obtain ⟨h_r7_q27812_0, -⟩ := h_r7_q27812
                    have b_27814 := i32b r7_q27812.1
                    refine wq_v (fun v8_q27813 h_v8_q27813 => ?_)
                    have t_v8_q27813 := congrArg Int32.toInt h_v8_q27813
                    refine wq_eq (fun hc_27815 => ?_) (fun hc_27816 => ?_)
                    · exfalso; omega
                    · unfold fX12_readsEntry_J166
                      unfold fX12_readsEntry_J168
                      have l_29 := il_29
                      refine wq_b (tt_fX12_number hN r7_q27812.2.1 r7_q27812.2.2.1 r7_q27812.2.2.2 (0 : Int32) (29 : Int32) h_r7_q27812_0) (fun r3_q27817 h_r3_q27817 => ?_)
                      obtain ⟨h_r3_q27817_0, -⟩ := h_r3_q27817
                      have b_27819 := i32b r3_q27817.1
                      refine wq_v (fun v4_q27818 h_v4_q27818 => ?_)
                      have t_v4_q27818 := congrArg Int32.toInt h_v4_q27818
                      refine wq_b (tt_fX12_isGood hN r3_q27817.2.1 r3_q27817.2.2.1 r3_q27817.2.2.2 h_r3_q27817_0) (fun r5_q27820 h_r5_q27820 => ?_)
                      obtain ⟨h_r5_q27820_0, -⟩ := h_r5_q27820
                      refine wq_eq (fun hc_27821 => ?_) (fun hc_27822 => ?_)
                      · unfold fX12_readsEntry_J193
                        have l_3 := il_3
                        refine wq_eq (fun hc_27823 => ?_) (fun hc_27824 => ?_)
                        · refine wq_b (tt_fX12_need hN r3_q27817.2.1 r3_q27817.2.2.1 r3_q27817.2.2.2 (1 : Int32) h_r3_q27817_0) (fun r2_q27825 h_r2_q27825 => ?_)
                          obtain ⟨h_r2_q27825_0, -⟩ := h_r2_q27825
                          exact wq_s ⟨h_r2_q27825_0, trivial⟩
                        · refine wq_b (tt_fX12_need hN r3_q27817.2.1 r3_q27817.2.2.1 r3_q27817.2.2.2 (0 : Int32) h_r3_q27817_0) (fun r1_q27826 h_r1_q27826 => ?_)
                          obtain ⟨h_r1_q27826_0, -⟩ := h_r1_q27826
                          exact wq_s ⟨h_r1_q27826_0, trivial⟩
                      · refine wq_in (n := 22) ⟨by omega, by omega⟩ ?_
                        refine wq_v (fun M0_6_q27827 h_M0_6_q27827 => ?_)
                        have b_27828 := i32b v8_q27813
                        have l_30 := il_30
                        have b_27829 := i32b v4_q27818
                        have tn_27830 := tn_of r21_q27436 (by omega)
                        have k_M0_6_q27827 : KX12 r3_q27817.2.1 M0_6_q27827 := by rw [h_M0_6_q27827]; exact KX12.sm16 h_r3_q27817_0 ⟨by omega, by omega⟩ (DN.um (KX12.edn h_r3_q27817_0) (fun q => by omega))
                        unfold fX12_readsEntry_J193
                        have l_3 := il_3
                        refine wq_eq (fun hc_27831 => ?_) (fun hc_27832 => ?_)
                        · refine wq_b (tt_fX12_need hN r3_q27817.2.1 r3_q27817.2.2.1 M0_6_q27827 (1 : Int32) k_M0_6_q27827) (fun r2_q27833 h_r2_q27833 => ?_)
                          obtain ⟨h_r2_q27833_0, -⟩ := h_r2_q27833
                          exact wq_s ⟨h_r2_q27833_0, trivial⟩
                        · refine wq_b (tt_fX12_need hN r3_q27817.2.1 r3_q27817.2.2.1 M0_6_q27827 (0 : Int32) k_M0_6_q27827) (fun r1_q27834 h_r1_q27834 => ?_)
                          obtain ⟨h_r1_q27834_0, -⟩ := h_r1_q27834
                          exact wq_s ⟨h_r1_q27834_0, trivial⟩
            · have l_3 := il_3
              refine wq_b (tt_fX12_wrong hN r20_q27793.1 r20_q27793.2.1 r20_q27793.2.2 (3 : Int32) h_r20_q27793_0) (fun r18_q27835 h_r18_q27835 => ?_)
              obtain ⟨h_r18_q27835_0, -⟩ := h_r18_q27835
              unfold fX12_readsEntry_J62
              refine wq_b (tt_fX12_isGood hN r18_q27835.1 r18_q27835.2.1 r18_q27835.2.2 h_r18_q27835_0) (fun r9b_q27836 h_r9b_q27836 => ?_)
              obtain ⟨h_r9b_q27836_0, -⟩ := h_r9b_q27836
              refine wq_eq (fun hc_27837 => ?_) (fun hc_27838 => ?_)
              · exact wq_s ⟨h_r18_q27835_0, trivial⟩
              · refine wq_b (tt_fX12_steps hN r18_q27835.1 r18_q27835.2.1 r18_q27835.2.2 h_r18_q27835_0) (fun r10_q27839 h_r10_q27839 => ?_)
                obtain ⟨h_r10_q27839_0, -⟩ := h_r10_q27839
                refine wq_eq (fun hc_27840 => ?_) (fun hc_27841 => ?_)
                · exfalso; omega
                · unfold fX12_readsEntry_J129
                  refine wq_eq (fun hc_27842 => ?_) (fun hc_27843 => ?_)
                  · exfalso; omega
                  · unfold fX12_readsEntry_J144
                    have l_11 := il_11
                    refine wq_b (tt_fX12_number hN r10_q27839.1 r10_q27839.2.1 r10_q27839.2.2 (0 : Int32) (11 : Int32) h_r10_q27839_0) (fun r7_q27844 h_r7_q27844 => ?_)
                    obtain ⟨h_r7_q27844_0, -⟩ := h_r7_q27844
                    have b_27846 := i32b r7_q27844.1
                    refine wq_v (fun v8_q27845 h_v8_q27845 => ?_)
                    have t_v8_q27845 := congrArg Int32.toInt h_v8_q27845
                    refine wq_eq (fun hc_27847 => ?_) (fun hc_27848 => ?_)
                    · exfalso; omega
                    · unfold fX12_readsEntry_J166
                      unfold fX12_readsEntry_J168
                      have l_29 := il_29
                      refine wq_b (tt_fX12_number hN r7_q27844.2.1 r7_q27844.2.2.1 r7_q27844.2.2.2 (0 : Int32) (29 : Int32) h_r7_q27844_0) (fun r3_q27849 h_r3_q27849 => ?_)
                      obtain ⟨h_r3_q27849_0, -⟩ := h_r3_q27849
                      have b_27851 := i32b r3_q27849.1
                      refine wq_v (fun v4_q27850 h_v4_q27850 => ?_)
                      have t_v4_q27850 := congrArg Int32.toInt h_v4_q27850
                      refine wq_b (tt_fX12_isGood hN r3_q27849.2.1 r3_q27849.2.2.1 r3_q27849.2.2.2 h_r3_q27849_0) (fun r5_q27852 h_r5_q27852 => ?_)
                      obtain ⟨h_r5_q27852_0, -⟩ := h_r5_q27852
                      refine wq_eq (fun hc_27853 => ?_) (fun hc_27854 => ?_)
                      · unfold fX12_readsEntry_J193
                        refine wq_eq (fun hc_27855 => ?_) (fun hc_27856 => ?_)
                        · refine wq_b (tt_fX12_need hN r3_q27849.2.1 r3_q27849.2.2.1 r3_q27849.2.2.2 (1 : Int32) h_r3_q27849_0) (fun r2_q27857 h_r2_q27857 => ?_)
                          obtain ⟨h_r2_q27857_0, -⟩ := h_r2_q27857
                          exact wq_s ⟨h_r2_q27857_0, trivial⟩
                        · refine wq_b (tt_fX12_need hN r3_q27849.2.1 r3_q27849.2.2.1 r3_q27849.2.2.2 (0 : Int32) h_r3_q27849_0) (fun r1_q27858 h_r1_q27858 => ?_)
                          obtain ⟨h_r1_q27858_0, -⟩ := h_r1_q27858
                          exact wq_s ⟨h_r1_q27858_0, trivial⟩
                      · refine wq_in (n := 22) ⟨by omega, by omega⟩ ?_
                        refine wq_v (fun M0_6_q27859 h_M0_6_q27859 => ?_)
                        have b_27860 := i32b v8_q27845
                        have l_30 := il_30
                        have b_27861 := i32b v4_q27850
                        have tn_27862 := tn_of r21_q27436 (by omega)
                        have k_M0_6_q27859 : KX12 r3_q27849.2.1 M0_6_q27859 := by rw [h_M0_6_q27859]; exact KX12.sm16 h_r3_q27849_0 ⟨by omega, by omega⟩ (DN.um (KX12.edn h_r3_q27849_0) (fun q => by omega))
                        unfold fX12_readsEntry_J193
                        refine wq_eq (fun hc_27863 => ?_) (fun hc_27864 => ?_)
                        · refine wq_b (tt_fX12_need hN r3_q27849.2.1 r3_q27849.2.2.1 M0_6_q27859 (1 : Int32) k_M0_6_q27859) (fun r2_q27865 h_r2_q27865 => ?_)
                          obtain ⟨h_r2_q27865_0, -⟩ := h_r2_q27865
                          exact wq_s ⟨h_r2_q27865_0, trivial⟩
                        · refine wq_b (tt_fX12_need hN r3_q27849.2.1 r3_q27849.2.2.1 M0_6_q27859 (0 : Int32) k_M0_6_q27859) (fun r1_q27866 h_r1_q27866 => ?_)
                          obtain ⟨h_r1_q27866_0, -⟩ := h_r1_q27866
                          exact wq_s ⟨h_r1_q27866_0, trivial⟩
set_option maxHeartbeats 4000000 in
theorem tt_fX12_wheel {N : Nat} (hN : 3000000000 ≤ N) (I0 : Nat → Int32) (L0 : Int64) (M0 : Nat → Nat → Int32) (x1 : Int32) (x2 : Int32) (x3 : Int32) (k_I0 : KX12 I0 M0) : wq (fX12_wheel N I0 L0 M0 x1 x2 x3) (fun r => KX12 r.2.1 r.2.2.2 ∧ True) := by sorry
set_option maxHeartbeats 4000000 in
theorem tt_fX12_fault {N : Nat} (hN : 3000000000 ≤ N) (I0 : Nat → Int32) (L0 : Int64) (M0 : Nat → Nat → Int32) (k_I0 : KX12 I0 M0) : wq (fX12_fault N I0 L0 M0) (fun r => KX12 r.2.1 r.2.2.2 ∧ True) := by
  unfold fX12_fault
  refine wq_v (fun I0_1_q28061 h_I0_1_q28061 => ?_)
  have k_I0_1_q28061 : KX12 I0_1_q28061 M0 := by rw [h_I0_1_q28061]; exact KX12.si0 k_I0
  have t_28062 : (I0_1_q28061 5).toInt = (I0 5).toInt := by rw [h_I0_1_q28061]; rfl
  exact wq_s ⟨k_I0_1_q28061, trivial⟩
theorem tt_fX12_at {N : Nat} (hN : 3000000000 ≤ N) (I0 : Nat → Int32) (L0 : Int64) (M0 : Nat → Nat → Int32) (x1 : Int32) (x2 : Int32) (h_x1 : 0 ≤ x1.toInt ∧ x1.toInt ≤ 119) (h_x2 : 0 ≤ x2.toInt ∧ x2.toInt ≤ 21) (k_I0 : KX12 I0 M0) : wq (fX12_at N I0 L0 M0 x1 x2) (fun r => (r.toInt ≤ 359 ∨ x2.toInt = 21) ∧ (-1 ≤ r.toInt ∧ r.toInt ≤ 389) ∧ True) := by
  unfold fX12_at
  have l_22 := il_22
  have t1 := ia_mul (22 : Int32) 22 il_22 x1 (by omega) (by omega)
  have t2 := ia_add ((22 : Int32) * x1) x2 (by omega) (by omega)
  refine wq_in (n := 2640) ⟨by omega, by omega⟩ ?_
  have tn := tn_of (((22 : Int32) * x1) + x2) (by omega)
  have e : (((22 : Int32) * x1) + x2).toNatClampNeg = 22 * x1.toInt.toNat + x2.toInt.toNat := by omega
  refine wq_s ⟨?_, k_I0.m7 _, trivial⟩
  by_cases h : x2.toInt = 21
  · exact Or.inr h
  · left
    rw [e]
    exact k_I0.een _ _ (by omega)
set_option maxHeartbeats 4000000 in
theorem tt_fX12_tells_L4 {N : Nat} (hN : 3000000000 ≤ N) (I0 : Nat → Int32) (L0 : Int64) (M0 : Nat → Nat → Int32) (x1 : Int32) (h_x1 : 0 ≤ x1.toInt ∧ x1.toInt ≤ 119) (k_I0 : KX12 I0 M0)  : ∀ (fu : Nat) (y4_2 : Int32) (y4_3 : Int32), (0 ≤ y4_2.toInt ∧ y4_2.toInt ≤ 1) → (0 ≤ y4_3.toInt ∧ y4_3.toInt ≤ 22) → (22 - y4_3.toInt) < (fu : Int) → wq (fX12_tells_L4 N I0 L0 M0 x1 fu y4_2 y4_3) (fun r => (0 ≤ r.toInt ∧ r.toInt ≤ 1) ∧ True) := by
  intro fu
  induction fu with
  | zero => intro y4_2 y4_3 h_y4_2 h_y4_3 hm; exfalso; omega
  | succ fu ih =>
    intro y4_2 y4_3 h_y4_2 h_y4_3 hm
    rw [fX12_tells_L4.eq_2]
    have l_22 := il_22
    refine wq_le (fun hc_28204 => ?_) (fun hc_28205 => ?_)
    · refine wq_bz (by omega) ?_
      exact wq_s ⟨(show 0 ≤ y4_2.toInt ∧ y4_2.toInt ≤ 1 from ⟨by omega, by omega⟩), trivial⟩
    · have l_0 := il_0
      refine wq_eq (fun hc_28206 => ?_) (fun hc_28207 => ?_)
      · refine wq_b (tt_fX12_at hN I0 L0 M0 x1 y4_3 ⟨by omega, by omega⟩ ⟨by omega, by omega⟩ k_I0) (fun r2_q28208 h_r2_q28208 => ?_)
        obtain ⟨h_r2_q28208_0, h_r2_q28208_1, -⟩ := h_r2_q28208
        have l_m1 := il_m1
        refine wq_eq (fun hc_28209 => ?_) (fun hc_28210 => ?_)
        · have l_1 := il_1
          have t_28212 := ia_add y4_3 (1 : Int32) (by omega) (by omega)
          refine wq_v (fun v3_q28211 h_v3_q28211 => ?_)
          have t_v3_q28211 := congrArg Int32.toInt h_v3_q28211
          exact ih (0 : Int32) v3_q28211 ⟨by omega, by omega⟩ ⟨by omega, by omega⟩ (by omega)
        · have l_1 := il_1
          have t_28214 := ia_add y4_3 (1 : Int32) (by omega) (by omega)
          refine wq_v (fun v4_q28213 h_v4_q28213 => ?_)
          have t_v4_q28213 := congrArg Int32.toInt h_v4_q28213
          exact ih (1 : Int32) v4_q28213 ⟨by omega, by omega⟩ ⟨by omega, by omega⟩ (by omega)
      · have l_1 := il_1
        have t_28216 := ia_add y4_3 (1 : Int32) (by omega) (by omega)
        refine wq_v (fun v1_q28215 h_v1_q28215 => ?_)
        have t_v1_q28215 := congrArg Int32.toInt h_v1_q28215
        exact ih (1 : Int32) v1_q28215 ⟨by omega, by omega⟩ ⟨by omega, by omega⟩ (by omega)
set_option maxHeartbeats 4000000 in
theorem tt_fX12_tells {N : Nat} (hN : 3000000000 ≤ N) (I0 : Nat → Int32) (L0 : Int64) (M0 : Nat → Nat → Int32) (x1 : Int32) (h_x1 : 0 ≤ x1.toInt ∧ x1.toInt ≤ 119) (k_I0 : KX12 I0 M0) : wq (fX12_tells N I0 L0 M0 x1) (fun r => (0 ≤ r.toInt ∧ r.toInt ≤ 1) ∧ True) := by
  unfold fX12_tells
  have l_0 := il_0
  exact tt_fX12_tells_L4 hN I0 L0 M0 x1 ⟨by omega, by omega⟩ k_I0 N (0 : Int32) (0 : Int32) ⟨by omega, by omega⟩ ⟨by omega, by omega⟩ (by omega)
set_option maxHeartbeats 4000000 in
theorem tt_fX12_bookTells_L4 {N : Nat} (hN : 3000000000 ≤ N) (I0 : Nat → Int32) (L0 : Int64) (M0 : Nat → Nat → Int32) (x1 : Int32) (h_x1 : 0 ≤ x1.toInt ∧ x1.toInt ≤ 5) (k_I0 : KX12 I0 M0)  : ∀ (fu : Nat) (y4_2 : Int32) (y4_3 : Int32), (0 ≤ y4_2.toInt ∧ y4_2.toInt ≤ 1) → (0 ≤ y4_3.toInt ∧ y4_3.toInt ≤ 20) → (20 - y4_3.toInt) < (fu : Int) → wq (fX12_bookTells_L4 N I0 L0 M0 x1 fu y4_2 y4_3) (fun r => (0 ≤ r.toInt ∧ r.toInt ≤ 1) ∧ True) := by
  intro fu
  induction fu with
  | zero => intro y4_2 y4_3 h_y4_2 h_y4_3 hm; exfalso; omega
  | succ fu ih =>
    intro y4_2 y4_3 h_y4_2 h_y4_3 hm
    rw [fX12_bookTells_L4.eq_2]
    have l_20 := il_20
    refine wq_le (fun hc_28410 => ?_) (fun hc_28411 => ?_)
    · refine wq_bz (by omega) ?_
      exact wq_s ⟨(show 0 ≤ y4_2.toInt ∧ y4_2.toInt ≤ 1 from ⟨by omega, by omega⟩), trivial⟩
    · have l_0 := il_0
      refine wq_eq (fun hc_28412 => ?_) (fun hc_28413 => ?_)
      · have t_28414 := ia_mul (20 : Int32) (20) il_20 x1 (by omega) (by omega)
        have t_28415 := ia_add ((20 : Int32) * x1) y4_3 (by omega) (by omega)
        refine wq_b (tt_fX12_tells hN I0 L0 M0 (((20 : Int32) * x1) + y4_3) ⟨by omega, by omega⟩ k_I0) (fun r2_q28416 h_r2_q28416 => ?_)
        obtain ⟨h_r2_q28416_0, -⟩ := h_r2_q28416
        refine wq_eq (fun hc_28417 => ?_) (fun hc_28418 => ?_)
        · have l_1 := il_1
          have t_28420 := ia_add y4_3 (1 : Int32) (by omega) (by omega)
          refine wq_v (fun v3_q28419 h_v3_q28419 => ?_)
          have t_v3_q28419 := congrArg Int32.toInt h_v3_q28419
          exact ih (0 : Int32) v3_q28419 ⟨by omega, by omega⟩ ⟨by omega, by omega⟩ (by omega)
        · have l_1 := il_1
          have t_28422 := ia_add y4_3 (1 : Int32) (by omega) (by omega)
          refine wq_v (fun v4_q28421 h_v4_q28421 => ?_)
          have t_v4_q28421 := congrArg Int32.toInt h_v4_q28421
          exact ih (1 : Int32) v4_q28421 ⟨by omega, by omega⟩ ⟨by omega, by omega⟩ (by omega)
      · have l_1 := il_1
        have t_28424 := ia_add y4_3 (1 : Int32) (by omega) (by omega)
        refine wq_v (fun v1_q28423 h_v1_q28423 => ?_)
        have t_v1_q28423 := congrArg Int32.toInt h_v1_q28423
        exact ih (1 : Int32) v1_q28423 ⟨by omega, by omega⟩ ⟨by omega, by omega⟩ (by omega)
set_option maxHeartbeats 4000000 in
theorem tt_fX12_bookTells {N : Nat} (hN : 3000000000 ≤ N) (I0 : Nat → Int32) (L0 : Int64) (M0 : Nat → Nat → Int32) (x1 : Int32) (h_x1 : 0 ≤ x1.toInt ∧ x1.toInt ≤ 5) (k_I0 : KX12 I0 M0) : wq (fX12_bookTells N I0 L0 M0 x1) (fun r => (0 ≤ r.toInt ∧ r.toInt ≤ 1) ∧ True) := by
  unfold fX12_bookTells
  have l_0 := il_0
  exact tt_fX12_bookTells_L4 hN I0 L0 M0 x1 ⟨by omega, by omega⟩ k_I0 N (0 : Int32) (0 : Int32) ⟨by omega, by omega⟩ ⟨by omega, by omega⟩ (by omega)
theorem tt_fX12_floor {N : Nat} (hN : 3000000000 ≤ N) (x0 : Int64) (x1 : Int64) (hr_0 : x1 ≠ 0) : wq (fX12_floor N x0 x1) (fun r => True) := by
  unfold fX12_floor
  refine wq_n hr_0 (wq_v (fun v1 e1 => ?_))
  refine wq_n hr_0 ?_
  refine wq_i (fun _ => wq_s trivial) (fun _ => wq_i (fun _ => wq_s trivial) (fun _ => wq_s trivial))
theorem tt_fX12_placeOn {N : Nat} (hN : 3000000000 ≤ N) (I0 : Nat → Int32) (L0 : Int64) (M0 : Nat → Nat → Int32) (x1 : Int32) (x2 : Int32) (x3 : Int32) (h_x1 : 0 ≤ x1.toInt ∧ x1.toInt ≤ 3) (h_x2 : 0 ≤ x2.toInt ∧ x2.toInt ≤ 6) (k_I0 : KX12 I0 M0) : wq (fX12_placeOn N I0 L0 M0 x1 x2 x3) (fun r => True) := by
  unfold fX12_placeOn
  have l_7 := il_7
  have ta := ia_mul (7 : Int32) 7 il_7 x1 (by omega) (by omega)
  have tb := ia_add ((7 : Int32) * x1) x2 (by omega) (by omega)
  refine wq_v (fun v4 e4 => ?_)
  have tv := congrArg Int32.toInt e4
  have k3 := k_I0.m3 v4.toNatClampNeg
  have hin : 0 ≤ v4.toInt ∧ v4.toInt < ((28 : Nat) : Int) := ⟨by omega, by omega⟩
  have hJ : ∀ a b c : Int64, wq (fX12_placeOn_J79 N I0 L0 M0 x1 x2 x3 v4 a b c) (fun r => True) := by
    intro a b c
    unfold fX12_placeOn_J79
    refine wq_in hin (wq_in hin (wq_in hin ?_))
    refine wq_b (tt_fX12_floor hN _ _ (i64nz (by omega))) (fun r1 _ => wq_v (fun v2 _ => wq_v (fun v3 _ => ?_)))
    exact wq_i (fun _ => wq_s trivial) (fun _ => wq_s trivial)
  refine wq_in hin (wq_nz (by omega) (wq_v (fun v5 _ => ?_)))
  refine wq_in hin (wq_v (fun v6 _ => ?_))
  refine wq_in hin (wq_in hin ?_)
  exact wq_i (fun _ => hJ _ _ _) (fun _ => hJ _ _ _)
set_option maxHeartbeats 4000000 in
theorem tt_fX12_place {N : Nat} (hN : 3000000000 ≤ N) (I0 : Nat → Int32) (L0 : Int64) (M0 : Nat → Nat → Int32) (x1 : Int32) (x2 : Int32) (x3 : Int32) (k_I0 : KX12 I0 M0) : wq (fX12_place N I0 L0 M0 x1 x2 x3) (fun r => KX12 r.2.1 r.2.2.2 ∧ True) := by
  unfold fX12_place
  refine wq_v (fun I0_3_q28641 h_I0_3_q28641 => ?_)
  have k_I0_3_q28641 : KX12 I0_3_q28641 M0 := by rw [h_I0_3_q28641]; exact KX12.si0 k_I0
  have b_28642 := i32b x1
  have l_0 := il_0
  have l_3 := il_3
  refine wq_b (tt_fX12_within hN x1 (0 : Int32) (3 : Int32)) (fun r4_q28643 h_r4_q28643 => ?_)
  obtain ⟨h_r4_q28643_0, h_r4_q28643_1, -⟩ := h_r4_q28643
  refine wq_eq (fun hc_28644 => ?_) (fun hc_28645 => ?_)
  · unfold fX12_place_J39
    unfold fX12_place_J40
    have l_1 := il_1
    refine wq_b (tt_fX12_right hN I0_3_q28641 L0 M0 (0 : Int32) (1 : Int32) ⟨by omega, by omega⟩ k_I0_3_q28641) (fun r1_q28646 h_r1_q28646 => ?_)
    obtain ⟨h_r1_q28646_0, h_r1_q28646_1, h_r1_q28646_2, h_r1_q28646_3, -⟩ := h_r1_q28646
    refine wq_eq (fun hc_28647 => ?_) (fun hc_28648 => ?_)
    · exact wq_s ⟨h_r1_q28646_3, trivial⟩
    · have b_28649 := i32b x2
      have b_28650 := i32b x3
      refine wq_b (tt_fX12_placeOn hN r1_q28646.2.1 r1_q28646.2.2.1 r1_q28646.2.2.2 x1 x2 x3 ⟨by omega, by omega⟩ ⟨by omega, by omega⟩ h_r1_q28646_3) (fun r2_q28651 h_r2_q28651 => ?_)
      obtain ⟨-⟩ := h_r2_q28651
      have b_28652 := i32b r2_q28651
      exact wq_s ⟨h_r1_q28646_3, trivial⟩
  · have b_28653 := i32b x2
    have l_6 := il_6
    refine wq_b (tt_fX12_within hN x2 (0 : Int32) (6 : Int32)) (fun r5_q28654 h_r5_q28654 => ?_)
    obtain ⟨h_r5_q28654_0, h_r5_q28654_1, -⟩ := h_r5_q28654
    refine wq_eq (fun hc_28655 => ?_) (fun hc_28656 => ?_)
    · unfold fX12_place_J39
      unfold fX12_place_J40
      have l_1 := il_1
      refine wq_b (tt_fX12_right hN I0_3_q28641 L0 M0 (0 : Int32) (1 : Int32) ⟨by omega, by omega⟩ k_I0_3_q28641) (fun r1_q28657 h_r1_q28657 => ?_)
      obtain ⟨h_r1_q28657_0, h_r1_q28657_1, h_r1_q28657_2, h_r1_q28657_3, -⟩ := h_r1_q28657
      refine wq_eq (fun hc_28658 => ?_) (fun hc_28659 => ?_)
      · exact wq_s ⟨h_r1_q28657_3, trivial⟩
      · have b_28660 := i32b x3
        refine wq_b (tt_fX12_placeOn hN r1_q28657.2.1 r1_q28657.2.2.1 r1_q28657.2.2.2 x1 x2 x3 ⟨by omega, by omega⟩ ⟨by omega, by omega⟩ h_r1_q28657_3) (fun r2_q28661 h_r2_q28661 => ?_)
        obtain ⟨-⟩ := h_r2_q28661
        have b_28662 := i32b r2_q28661
        exact wq_s ⟨h_r1_q28657_3, trivial⟩
    · have b_28663 := i32b x3
      have l_1000000 := il_1000000
      refine wq_b (tt_fX12_within hN x3 (0 : Int32) (1000000 : Int32)) (fun r6_q28664 h_r6_q28664 => ?_)
      obtain ⟨h_r6_q28664_0, h_r6_q28664_1, -⟩ := h_r6_q28664
      refine wq_eq (fun hc_28665 => ?_) (fun hc_28666 => ?_)
      · unfold fX12_place_J39
        unfold fX12_place_J40
        have l_1 := il_1
        refine wq_b (tt_fX12_right hN I0_3_q28641 L0 M0 (0 : Int32) (1 : Int32) ⟨by omega, by omega⟩ k_I0_3_q28641) (fun r1_q28667 h_r1_q28667 => ?_)
        obtain ⟨h_r1_q28667_0, h_r1_q28667_1, h_r1_q28667_2, h_r1_q28667_3, -⟩ := h_r1_q28667
        refine wq_eq (fun hc_28668 => ?_) (fun hc_28669 => ?_)
        · exact wq_s ⟨h_r1_q28667_3, trivial⟩
        · refine wq_b (tt_fX12_placeOn hN r1_q28667.2.1 r1_q28667.2.2.1 r1_q28667.2.2.2 x1 x2 x3 ⟨by omega, by omega⟩ ⟨by omega, by omega⟩ h_r1_q28667_3) (fun r2_q28670 h_r2_q28670 => ?_)
          obtain ⟨-⟩ := h_r2_q28670
          have b_28671 := i32b r2_q28670
          exact wq_s ⟨h_r1_q28667_3, trivial⟩
      · unfold fX12_place_J40
        have l_1 := il_1
        refine wq_b (tt_fX12_right hN I0_3_q28641 L0 M0 (1 : Int32) (1 : Int32) ⟨by omega, by omega⟩ k_I0_3_q28641) (fun r1_q28672 h_r1_q28672 => ?_)
        obtain ⟨h_r1_q28672_0, h_r1_q28672_1, h_r1_q28672_2, h_r1_q28672_3, -⟩ := h_r1_q28672
        refine wq_eq (fun hc_28673 => ?_) (fun hc_28674 => ?_)
        · exact wq_s ⟨h_r1_q28672_3, trivial⟩
        · refine wq_b (tt_fX12_placeOn hN r1_q28672.2.1 r1_q28672.2.2.1 r1_q28672.2.2.2 x1 x2 x3 ⟨by omega, by omega⟩ ⟨by omega, by omega⟩ h_r1_q28672_3) (fun r2_q28675 h_r2_q28675 => ?_)
          obtain ⟨-⟩ := h_r2_q28675
          have b_28676 := i32b r2_q28675
          exact wq_s ⟨h_r1_q28672_3, trivial⟩
set_option maxHeartbeats 4000000 in
theorem tt_fX12_entry {N : Nat} (hN : 3000000000 ≤ N) (I0 : Nat → Int32) (L0 : Int64) (M0 : Nat → Nat → Int32) (x1 : Int32) (x2 : Int32) (x3 : Int32) (k_I0 : KX12 I0 M0) : wq (fX12_entry N I0 L0 M0 x1 x2 x3) (fun r => (-1 ≤ r.1.toInt ∧ r.1.toInt ≤ 389) ∧ KX12 r.2.1 r.2.2.2 ∧ True) := by
  unfold fX12_entry
  have b_28755 := i32b x1
  have b_28756 := i32b x2
  refine wq_b (tt_fX12_isWheel hN I0 L0 M0 x1 x2 k_I0) (fun r1_q28757 h_r1_q28757 => ?_)
  obtain ⟨h_r1_q28757_0, h_r1_q28757_1, h_r1_q28757_2, h_r1_q28757_3, -⟩ := h_r1_q28757
  have l_0 := il_0
  refine wq_eq (fun hc_28758 => ?_) (fun hc_28759 => ?_)
  · exact wq_s ⟨(show -1 ≤ (0 : Int32).toInt ∧ (0 : Int32).toInt ≤ 389 from ⟨by omega, by omega⟩), h_r1_q28757_3, trivial⟩
  · have b_28760 := i32b x3
    have l_21 := il_21
    refine wq_b (tt_fX12_within hN x3 (0 : Int32) (21 : Int32)) (fun r2_q28761 h_r2_q28761 => ?_)
    obtain ⟨h_r2_q28761_0, h_r2_q28761_1, -⟩ := h_r2_q28761
    have l_1 := il_1
    refine wq_b (tt_fX12_right hN r1_q28757.2.1 r1_q28757.2.2.1 r1_q28757.2.2.2 r2_q28761 (1 : Int32) ⟨by omega, by omega⟩ h_r1_q28757_3) (fun r3_q28762 h_r3_q28762 => ?_)
    obtain ⟨h_r3_q28762_0, h_r3_q28762_1, h_r3_q28762_2, h_r3_q28762_3, -⟩ := h_r3_q28762
    refine wq_eq (fun hc_28763 => ?_) (fun hc_28764 => ?_)
    · exact wq_s ⟨(show -1 ≤ (0 : Int32).toInt ∧ (0 : Int32).toInt ≤ 389 from ⟨by omega, by omega⟩), h_r3_q28762_3, trivial⟩
    · have l_20 := il_20
      have t_28765 := ia_mul (20 : Int32) (20) il_20 x1 (by omega) (by omega)
      have t_28766 := ia_add ((20 : Int32) * x1) x2 (by omega) (by omega)
      refine wq_b (tt_fX12_at hN r3_q28762.2.1 r3_q28762.2.2.1 r3_q28762.2.2.2 (((20 : Int32) * x1) + x2) x3 ⟨by omega, by omega⟩ ⟨by omega, by omega⟩ h_r3_q28762_3) (fun r4_q28767 h_r4_q28767 => ?_)
      obtain ⟨h_r4_q28767_0, h_r4_q28767_1, -⟩ := h_r4_q28767
      exact wq_s ⟨(show -1 ≤ r4_q28767.toInt ∧ r4_q28767.toInt ≤ 389 from ⟨by omega, by omega⟩), h_r3_q28762_3, trivial⟩
set_option maxHeartbeats 4000000 in
theorem tt_fX12_isHand_L5 {N : Nat} (hN : 3000000000 ≤ N) (I0 : Nat → Int32) (L0 : Int64) (M0 : Nat → Nat → Int32) (x1 : Int32) (x2 : Int32) (k_I0 : KX12 I0 M0)  : ∀ (fu : Nat) (y5_3 : Int32) (y5_4 : Int32), (0 ≤ y5_3.toInt ∧ y5_3.toInt ≤ 1) → (0 ≤ y5_4.toInt ∧ y5_4.toInt ≤ 30) → (30 - y5_4.toInt) < (fu : Int) → wq (fX12_isHand_L5 N I0 L0 M0 x1 x2 fu y5_3 y5_4) (fun r => (0 ≤ r.toInt ∧ r.toInt ≤ 1) ∧ True) := by
  intro fu
  induction fu with
  | zero => intro y5_3 y5_4 h_y5_3 h_y5_4 hm; exfalso; omega
  | succ fu ih =>
    intro y5_3 y5_4 h_y5_3 h_y5_4 hm
    rw [fX12_isHand_L5.eq_2]
    have t_28957 := KX12.i2 k_I0
    refine wq_le (fun hc_28958 => ?_) (fun hc_28959 => ?_)
    · refine wq_bz (by omega) ?_
      exact wq_s ⟨(show 0 ≤ y5_3.toInt ∧ y5_3.toInt ≤ 1 from ⟨by omega, by omega⟩), trivial⟩
    · have l_0 := il_0
      refine wq_eq (fun hc_28960 => ?_) (fun hc_28961 => ?_)
      · refine wq_in (n := 30) ⟨by omega, by omega⟩ ?_
        have b_28962 := i32b x1
        refine wq_eq (fun hc_28963 => ?_) (fun hc_28964 => ?_)
        · refine wq_in (n := 30) ⟨by omega, by omega⟩ ?_
          have b_28965 := i32b x2
          refine wq_eq (fun hc_28966 => ?_) (fun hc_28967 => ?_)
          · have l_1 := il_1
            have t_28969 := ia_add y5_4 (1 : Int32) (by omega) (by omega)
            refine wq_v (fun v4_q28968 h_v4_q28968 => ?_)
            have t_v4_q28968 := congrArg Int32.toInt h_v4_q28968
            exact ih (1 : Int32) v4_q28968 ⟨by omega, by omega⟩ ⟨by omega, by omega⟩ (by omega)
          · have l_1 := il_1
            have t_28971 := ia_add y5_4 (1 : Int32) (by omega) (by omega)
            refine wq_v (fun v3_q28970 h_v3_q28970 => ?_)
            have t_v3_q28970 := congrArg Int32.toInt h_v3_q28970
            exact ih (0 : Int32) v3_q28970 ⟨by omega, by omega⟩ ⟨by omega, by omega⟩ (by omega)
        · have l_1 := il_1
          have t_28973 := ia_add y5_4 (1 : Int32) (by omega) (by omega)
          refine wq_v (fun v2_q28972 h_v2_q28972 => ?_)
          have t_v2_q28972 := congrArg Int32.toInt h_v2_q28972
          exact ih (0 : Int32) v2_q28972 ⟨by omega, by omega⟩ ⟨by omega, by omega⟩ (by omega)
      · have l_1 := il_1
        have t_28975 := ia_add y5_4 (1 : Int32) (by omega) (by omega)
        refine wq_v (fun v1_q28974 h_v1_q28974 => ?_)
        have t_v1_q28974 := congrArg Int32.toInt h_v1_q28974
        exact ih (1 : Int32) v1_q28974 ⟨by omega, by omega⟩ ⟨by omega, by omega⟩ (by omega)
set_option maxHeartbeats 4000000 in
theorem tt_fX12_isHand {N : Nat} (hN : 3000000000 ≤ N) (I0 : Nat → Int32) (L0 : Int64) (M0 : Nat → Nat → Int32) (x1 : Int32) (x2 : Int32) (k_I0 : KX12 I0 M0) : wq (fX12_isHand N I0 L0 M0 x1 x2) (fun r => (0 ≤ r.toInt ∧ r.toInt ≤ 1) ∧ True) := by
  unfold fX12_isHand
  have b_28976 := i32b x1
  have b_28977 := i32b x2
  have l_0 := il_0
  exact tt_fX12_isHand_L5 hN I0 L0 M0 x1 x2 k_I0 N (0 : Int32) (0 : Int32) ⟨by omega, by omega⟩ ⟨by omega, by omega⟩ (by omega)
set_option maxHeartbeats 4000000 in
theorem tt_fX12_beside {N : Nat} (hN : 3000000000 ≤ N) (I0 : Nat → Int32) (L0 : Int64) (M0 : Nat → Nat → Int32) (x1 : Int32) (x2 : Int32) (h_x1 : 0 ≤ x1.toInt ∧ x1.toInt ≤ 389) (k_I0 : KX12 I0 M0) : wq (fX12_beside N I0 L0 M0 x1 x2) (fun r => (0 ≤ r.toInt ∧ r.toInt ≤ 9) ∧ True) := by
  unfold fX12_beside
  have b_29098 := i32b x2
  refine wq_eq (fun hc_29099 => ?_) (fun hc_29100 => ?_)
  · have l_0 := il_0
    exact wq_s ⟨(show 0 ≤ (0 : Int32).toInt ∧ (0 : Int32).toInt ≤ 9 from ⟨by omega, by omega⟩), trivial⟩
  · have l_30 := il_30
    have t_29101 := ia_div x1 (30 : Int32) 30 il_30 (by decide) (by omega)
    have t_29102 := i32b x2
    have t_29103 := ia_div2 x2 (30 : Int32) 30 il_30 (by decide)
    refine wq_eq (fun hc_29104 => ?_) (fun hc_29105 => ?_)
    · have t_29106 := ia_rem x1 (30 : Int32) 30 il_30 (by decide) (by omega)
      have t_29107 := ia_rem2 x2 (30 : Int32) 30 il_30 (by decide)
      refine wq_b (tt_fX12_isHand hN I0 L0 M0 (x1 - ((x1 / (30 : Int32)) * (30 : Int32))) (x2 - ((x2 / (30 : Int32)) * (30 : Int32))) k_I0) (fun r2_q29108 h_r2_q29108 => ?_)
      obtain ⟨h_r2_q29108_0, -⟩ := h_r2_q29108
      have l_0 := il_0
      refine wq_eq (fun hc_29109 => ?_) (fun hc_29110 => ?_)
      · have l_9 := il_9
        exact wq_s ⟨(show 0 ≤ (9 : Int32).toInt ∧ (9 : Int32).toInt ≤ 9 from ⟨by omega, by omega⟩), trivial⟩
      · have l_1 := il_1
        exact wq_s ⟨(show 0 ≤ (1 : Int32).toInt ∧ (1 : Int32).toInt ≤ 9 from ⟨by omega, by omega⟩), trivial⟩
    · have t_29111 := ia_rem x1 (30 : Int32) 30 il_30 (by decide) (by omega)
      have t_29112 := ia_rem2 x2 (30 : Int32) 30 il_30 (by decide)
      refine wq_eq (fun hc_29113 => ?_) (fun hc_29114 => ?_)
      · refine wq_b (tt_fX12_isHand hN I0 L0 M0 (x1 / (30 : Int32)) (x2 / (30 : Int32)) k_I0) (fun r1_q29115 h_r1_q29115 => ?_)
        obtain ⟨h_r1_q29115_0, -⟩ := h_r1_q29115
        have l_0 := il_0
        refine wq_eq (fun hc_29116 => ?_) (fun hc_29117 => ?_)
        · have l_9 := il_9
          exact wq_s ⟨(show 0 ≤ (9 : Int32).toInt ∧ (9 : Int32).toInt ≤ 9 from ⟨by omega, by omega⟩), trivial⟩
        · have l_2 := il_2
          exact wq_s ⟨(show 0 ≤ (2 : Int32).toInt ∧ (2 : Int32).toInt ≤ 9 from ⟨by omega, by omega⟩), trivial⟩
      · have l_9 := il_9
        exact wq_s ⟨(show 0 ≤ (9 : Int32).toInt ∧ (9 : Int32).toInt ≤ 9 from ⟨by omega, by omega⟩), trivial⟩
set_option maxHeartbeats 4000000 in
theorem tt_fX12_costOf {N : Nat} (hN : 3000000000 ≤ N) (I0 : Nat → Int32) (L0 : Int64) (M0 : Nat → Nat → Int32) (x1 : Int32) (x2 : Int32) (h_x1 : 0 ≤ x1.toInt ∧ x1.toInt ≤ 389) (k_I0 : KX12 I0 M0) : wq (fX12_costOf N I0 L0 M0 x1 x2) (fun r => (0 ≤ r.toInt ∧ r.toInt ≤ 9) ∧ True) := by
  unfold fX12_costOf
  have b_29142 := i32b x2
  refine wq_b (tt_fX12_beside hN I0 L0 M0 x1 x2 ⟨by omega, by omega⟩ k_I0) (fun r1_q29143 h_r1_q29143 => ?_)
  obtain ⟨h_r1_q29143_0, -⟩ := h_r1_q29143
  have l_2 := il_2
  refine wq_eq (fun hc_29144 => ?_) (fun hc_29145 => ?_)
  · have l_1 := il_1
    exact wq_s ⟨(show 0 ≤ (1 : Int32).toInt ∧ (1 : Int32).toInt ≤ 9 from ⟨by omega, by omega⟩), trivial⟩
  · exact wq_s ⟨(show 0 ≤ r1_q29143.toInt ∧ r1_q29143.toInt ≤ 9 from ⟨by omega, by omega⟩), trivial⟩
set_option maxHeartbeats 4000000 in
theorem tt_fX12_costOn_L37 {N : Nat} (hN : 3000000000 ≤ N) (I0 : Nat → Int32) (L0 : Int64) (M0 : Nat → Nat → Int32) (x1 : Int32) (x2 : Int32) (x3 : Int32) (x4 : Int32) (h_x1 : 0 ≤ x1.toInt ∧ x1.toInt ≤ 119) (h_x2 : 0 ≤ x2.toInt ∧ x2.toInt ≤ 3) (k_I0 : KX12 I0 M0)  : ∀ (fu : Nat) (y37_5 : Int32) (y37_6 : Int32), (0 ≤ y37_6.toInt ∧ y37_6.toInt ≤ 7) → (7 - y37_6.toInt) < (fu : Int) → wq (fX12_costOn_L37 N I0 L0 M0 x1 x2 x3 x4 fu y37_5 y37_6) (fun r => True) := by
  intro fu
  induction fu with
  | zero => intro y37_5 y37_6 h_y37_6 hm; exfalso; omega
  | succ fu ih =>
    intro y37_5 y37_6 h_y37_6 hm
    rw [fX12_costOn_L37.eq_2]
    have l_7 := il_7
    refine wq_le (fun hc_29589 => ?_) (fun hc_29590 => ?_)
    · have b_29591 := i32b y37_5
      exact wq_s trivial
    · have b_29592 := i32b x4
      have b_29593 := i32b y37_5
      refine wq_lt (fun hc_29594 => ?_) (fun hc_29595 => ?_)
      · exact wq_s trivial
      · refine wq_b (tt_fX12_at hN I0 L0 M0 x1 y37_6 ⟨by omega, by omega⟩ ⟨by omega, by omega⟩ k_I0) (fun r1_q29596 h_r1_q29596 => ?_)
        obtain ⟨h_r1_q29596_0, h_r1_q29596_1, -⟩ := h_r1_q29596
        have l_m1 := il_m1
        refine wq_eq (fun hc_29597 => ?_) (fun hc_29598 => ?_)
        · have l_1 := il_1
          have t_29600 := ia_add y37_6 (1 : Int32) (by omega) (by omega)
          refine wq_v (fun v2_q29599 h_v2_q29599 => ?_)
          have t_v2_q29599 := congrArg Int32.toInt h_v2_q29599
          exact ih y37_5 v2_q29599 ⟨by omega, by omega⟩ (by omega)
        · refine wq_b (tt_fX12_at hN I0 L0 M0 x1 y37_6 ⟨by omega, by omega⟩ ⟨by omega, by omega⟩ k_I0) (fun r3_q29601 h_r3_q29601 => ?_)
          obtain ⟨h_r3_q29601_0, h_r3_q29601_1, -⟩ := h_r3_q29601
          have b_29602 := i32b x3
          refine wq_b (tt_fX12_placeOn hN I0 L0 M0 x2 y37_6 x3 ⟨by omega, by omega⟩ ⟨by omega, by omega⟩ k_I0) (fun r4_q29603 h_r4_q29603 => ?_)
          obtain ⟨-⟩ := h_r4_q29603
          have b_29604 := i32b r4_q29603
          have l_60 := il_60
          have t_29605 := i32b r4_q29603
          have t_29606 := ia_div2 r4_q29603 (60 : Int32) 60 il_60 (by decide)
          refine wq_b (tt_fX12_costOf hN I0 L0 M0 r3_q29601 (r4_q29603 / (60 : Int32)) ⟨by omega, by omega⟩ k_I0) (fun r5_q29607 h_r5_q29607 => ?_)
          obtain ⟨h_r5_q29607_0, -⟩ := h_r5_q29607
          refine wq_v (fun v6_q29608 h_v6_q29608 => ?_)
          have t_v6_q29608 := congrArg Int32.toInt h_v6_q29608
          have l_1 := il_1
          have t_29610 := ia_add y37_6 (1 : Int32) (by omega) (by omega)
          refine wq_v (fun v7_q29609 h_v7_q29609 => ?_)
          have t_v7_q29609 := congrArg Int32.toInt h_v7_q29609
          have b_29611 := i32b v6_q29608
          exact ih v6_q29608 v7_q29609 ⟨by omega, by omega⟩ (by omega)
set_option maxHeartbeats 4000000 in
theorem tt_fX12_costOn {N : Nat} (hN : 3000000000 ≤ N) (I0 : Nat → Int32) (L0 : Int64) (M0 : Nat → Nat → Int32) (x1 : Int32) (x2 : Int32) (x3 : Int32) (x4 : Int32) (h_x1 : 0 ≤ x1.toInt ∧ x1.toInt ≤ 119) (h_x2 : 0 ≤ x2.toInt ∧ x2.toInt ≤ 3) (k_I0 : KX12 I0 M0) : wq (fX12_costOn N I0 L0 M0 x1 x2 x3 x4) (fun r => True) := by
  unfold fX12_costOn
  have l_21 := il_21
  refine wq_b (tt_fX12_at hN I0 L0 M0 x1 (21 : Int32) ⟨by omega, by omega⟩ ⟨by omega, by omega⟩ k_I0) (fun r8_q29612 h_r8_q29612 => ?_)
  obtain ⟨h_r8_q29612_0, h_r8_q29612_1, -⟩ := h_r8_q29612
  have l_m1 := il_m1
  refine wq_eq (fun hc_29613 => ?_) (fun hc_29614 => ?_)
  · unfold fX12_costOn_J31
    unfold fX12_costOn_J32
    have b_29615 := i32b x3
    have b_29616 := i32b x4
    have l_0 := il_0
    exact tt_fX12_costOn_L37 hN I0 L0 M0 x1 x2 x3 x4 ⟨by omega, by omega⟩ ⟨by omega, by omega⟩ k_I0 N (0 : Int32) (0 : Int32) ⟨by omega, by omega⟩ (by omega)
  · refine wq_b (tt_fX12_at hN I0 L0 M0 x1 (21 : Int32) ⟨by omega, by omega⟩ ⟨by omega, by omega⟩ k_I0) (fun r9b_q29617 h_r9b_q29617 => ?_)
    obtain ⟨h_r9b_q29617_0, h_r9b_q29617_1, -⟩ := h_r9b_q29617
    have b_29618 := i32b x3
    have l_365 := il_365
    have t_29619 := ia_rem2 x3 (365 : Int32) 365 il_365 (by decide)
    refine wq_eq (fun hc_29620 => ?_) (fun hc_29621 => ?_)
    · unfold fX12_costOn_J31
      unfold fX12_costOn_J32
      have b_29622 := i32b x4
      have l_0 := il_0
      exact tt_fX12_costOn_L37 hN I0 L0 M0 x1 x2 x3 x4 ⟨by omega, by omega⟩ ⟨by omega, by omega⟩ k_I0 N (0 : Int32) (0 : Int32) ⟨by omega, by omega⟩ (by omega)
    · unfold fX12_costOn_J32
      have b_29623 := i32b x4
      have l_30 := il_30
      have l_0 := il_0
      exact tt_fX12_costOn_L37 hN I0 L0 M0 x1 x2 x3 x4 ⟨by omega, by omega⟩ ⟨by omega, by omega⟩ k_I0 N (30 : Int32) (0 : Int32) ⟨by omega, by omega⟩ (by omega)

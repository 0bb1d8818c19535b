set_option maxHeartbeats 4000000 in
theorem tt_fX12_tells_L4 {N : Nat} (hN : 3000000000 ≤ N) (I0 : Nat → Int32) (L0 : Int64) (M0 : Nat → Nat → Int32) (x1 : Int32) (h_x1 : 0 ≤ x1.toInt ∧ x1.toInt ≤ 119) (k_I0 : KX12 I0 M0)  : ∀ (fu : Nat) (y4_2 : Int32) (y4_3 : Int32), (0 ≤ y4_2.toInt ∧ y4_2.toInt ≤ 1) → (0 ≤ y4_3.toInt ∧ y4_3.toInt ≤ 22) → (22 - y4_3.toInt) < (fu : Int) → wq (fX12_tells_L4 N I0 L0 M0 x1 fu y4_2 y4_3) (fun r => (0 ≤ r.toInt ∧ r.toInt ≤ 1) ∧ True) := by
  intro fu
  induction fu with
  | zero => intro y4_2 y4_3 h_y4_2 h_y4_3 hm; exfalso; omega
  | succ fu ih =>
    intro y4_2 y4_3 h_y4_2 h_y4_3 hm
    rw [fX12_tells_L4.eq_2]
    have l_22 := il_22
    refine wq_le (fun hc_26026 => ?_) (fun hc_26027 => ?_)
    · refine wq_bz (by omega) ?_
      exact wq_s ⟨(show 0 ≤ y4_2.toInt ∧ y4_2.toInt ≤ 1 from ⟨by omega, by omega⟩), trivial⟩
    · have l_0 := il_0
      refine wq_eq (fun hc_26028 => ?_) (fun hc_26029 => ?_)
      · refine wq_b (tt_fX12_at hN I0 L0 M0 x1 y4_3 ⟨by omega, by omega⟩ ⟨by omega, by omega⟩ k_I0) (fun r2_q26030 h_r2_q26030 => ?_)
        obtain ⟨h_r2_q26030_0, h_r2_q26030_1, h_r2_q26030_2, -⟩ := h_r2_q26030
        have l_m1 := il_m1
        refine wq_eq (fun hc_26031 => ?_) (fun hc_26032 => ?_)
        · have l_1 := il_1
          have t_26034 := ia_add y4_3 (1 : Int32) (by omega) (by omega)
          refine wq_v (fun v3_q26033 h_v3_q26033 => ?_)
          have t_v3_q26033 := congrArg Int32.toInt h_v3_q26033
          exact ih (0 : Int32) v3_q26033 ⟨by omega, by omega⟩ ⟨by omega, by omega⟩ (by omega)
        · have l_1 := il_1
          have t_26036 := ia_add y4_3 (1 : Int32) (by omega) (by omega)
          refine wq_v (fun v4_q26035 h_v4_q26035 => ?_)
          have t_v4_q26035 := congrArg Int32.toInt h_v4_q26035
          exact ih (1 : Int32) v4_q26035 ⟨by omega, by omega⟩ ⟨by omega, by omega⟩ (by omega)
      · have l_1 := il_1
        have t_26038 := ia_add y4_3 (1 : Int32) (by omega) (by omega)
        refine wq_v (fun v1_q26037 h_v1_q26037 => ?_)
        have t_v1_q26037 := congrArg Int32.toInt h_v1_q26037
        exact ih (1 : Int32) v1_q26037 ⟨by omega, by omega⟩ ⟨by omega, by omega⟩ (by omega)
set_option maxHeartbeats 4000000 in
theorem tt_fX12_tells {N : Nat} (hN : 3000000000 ≤ N) (I0 : Nat → Int32) (L0 : Int64) (M0 : Nat → Nat → Int32) (x1 : Int32) (h_x1 : 0 ≤ x1.toInt ∧ x1.toInt ≤ 119) (k_I0 : KX12 I0 M0) : wq (fX12_tells N I0 L0 M0 x1) (fun r => (0 ≤ r.toInt ∧ r.toInt ≤ 1) ∧ True) := by
  unfold fX12_tells
  have l_0 := il_0
  exact tt_fX12_tells_L4 hN I0 L0 M0 x1 ⟨by omega, by omega⟩ k_I0 N (0 : Int32) (0 : Int32) ⟨by omega, by omega⟩ ⟨by omega, by omega⟩ (by omega)
set_option maxHeartbeats 4000000 in
theorem tt_fX12_bookTells_L4 {N : Nat} (hN : 3000000000 ≤ N) (I0 : Nat → Int32) (L0 : Int64) (M0 : Nat → Nat → Int32) (x1 : Int32) (h_x1 : 0 ≤ x1.toInt ∧ x1.toInt ≤ 5) (k_I0 : KX12 I0 M0)  : ∀ (fu : Nat) (y4_2 : Int32) (y4_3 : Int32), (0 ≤ y4_2.toInt ∧ y4_2.toInt ≤ 1) → (0 ≤ y4_3.toInt ∧ y4_3.toInt ≤ 20) → (20 - y4_3.toInt) < (fu : Int) → wq (fX12_bookTells_L4 N I0 L0 M0 x1 fu y4_2 y4_3) (fun r => (0 ≤ r.toInt ∧ r.toInt ≤ 1) ∧ True) := by
  intro fu
  induction fu with
  | zero => intro y4_2 y4_3 h_y4_2 h_y4_3 hm; exfalso; omega
  | succ fu ih =>
    intro y4_2 y4_3 h_y4_2 h_y4_3 hm
    rw [fX12_bookTells_L4.eq_2]
    have l_20 := il_20
    refine wq_le (fun hc_26232 => ?_) (fun hc_26233 => ?_)
    · refine wq_bz (by omega) ?_
      exact wq_s ⟨(show 0 ≤ y4_2.toInt ∧ y4_2.toInt ≤ 1 from ⟨by omega, by omega⟩), trivial⟩
    · have l_0 := il_0
      refine wq_eq (fun hc_26234 => ?_) (fun hc_26235 => ?_)
      · have t_26236 := ia_mul (20 : Int32) (20) il_20 x1 (by omega) (by omega)
        have t_26237 := ia_add ((20 : Int32) * x1) y4_3 (by omega) (by omega)
        refine wq_b (tt_fX12_tells hN I0 L0 M0 (((20 : Int32) * x1) + y4_3) ⟨by omega, by omega⟩ k_I0) (fun r2_q26238 h_r2_q26238 => ?_)
        obtain ⟨h_r2_q26238_0, -⟩ := h_r2_q26238
        refine wq_eq (fun hc_26239 => ?_) (fun hc_26240 => ?_)
        · have l_1 := il_1
          have t_26242 := ia_add y4_3 (1 : Int32) (by omega) (by omega)
          refine wq_v (fun v3_q26241 h_v3_q26241 => ?_)
          have t_v3_q26241 := congrArg Int32.toInt h_v3_q26241
          exact ih (0 : Int32) v3_q26241 ⟨by omega, by omega⟩ ⟨by omega, by omega⟩ (by omega)
        · have l_1 := il_1
          have t_26244 := ia_add y4_3 (1 : Int32) (by omega) (by omega)
          refine wq_v (fun v4_q26243 h_v4_q26243 => ?_)
          have t_v4_q26243 := congrArg Int32.toInt h_v4_q26243
          exact ih (1 : Int32) v4_q26243 ⟨by omega, by omega⟩ ⟨by omega, by omega⟩ (by omega)
      · have l_1 := il_1
        have t_26246 := ia_add y4_3 (1 : Int32) (by omega) (by omega)
        refine wq_v (fun v1_q26245 h_v1_q26245 => ?_)
        have t_v1_q26245 := congrArg Int32.toInt h_v1_q26245
        exact ih (1 : Int32) v1_q26245 ⟨by omega, by omega⟩ ⟨by omega, by omega⟩ (by omega)
set_option maxHeartbeats 4000000 in
theorem tt_fX12_bookTells {N : Nat} (hN : 3000000000 ≤ N) (I0 : Nat → Int32) (L0 : Int64) (M0 : Nat → Nat → Int32) (x1 : Int32) (h_x1 : 0 ≤ x1.toInt ∧ x1.toInt ≤ 5) (k_I0 : KX12 I0 M0) : wq (fX12_bookTells N I0 L0 M0 x1) (fun r => (0 ≤ r.toInt ∧ r.toInt ≤ 1) ∧ True) := by
  unfold fX12_bookTells
  have l_0 := il_0
  exact tt_fX12_bookTells_L4 hN I0 L0 M0 x1 ⟨by omega, by omega⟩ k_I0 N (0 : Int32) (0 : Int32) ⟨by omega, by omega⟩ ⟨by omega, by omega⟩ (by omega)
theorem tt_fX12_floor {N : Nat} (hN : 3000000000 ≤ N) (x0 : Int64) (x1 : Int64) (hr_0 : x1 ≠ 0) : wq (fX12_floor N x0 x1) (fun r => True) := by
  unfold fX12_floor
  refine wq_n hr_0 (wq_v (fun v1 e1 => ?_))
  refine wq_n hr_0 ?_
  refine wq_i (fun _ => wq_s trivial) (fun _ => wq_i (fun _ => wq_s trivial) (fun _ => wq_s trivial))
theorem tt_fX12_placeOn {N : Nat} (hN : 3000000000 ≤ N) (I0 : Nat → Int32) (L0 : Int64) (M0 : Nat → Nat → Int32) (x1 : Int32) (x2 : Int32) (x3 : Int32) (h_x1 : 0 ≤ x1.toInt ∧ x1.toInt ≤ 3) (h_x2 : 0 ≤ x2.toInt ∧ x2.toInt ≤ 6) (k_I0 : KX12 I0 M0) : wq (fX12_placeOn N I0 L0 M0 x1 x2 x3) (fun r => True) := by
  unfold fX12_placeOn
  have l_7 := il_7
  have ta := ia_mul (7 : Int32) 7 il_7 x1 (by omega) (by omega)
  have tb := ia_add ((7 : Int32) * x1) x2 (by omega) (by omega)
  refine wq_v (fun v4 e4 => ?_)
  have tv := congrArg Int32.toInt e4
  have k3 := k_I0.m3 v4.toNatClampNeg
  have hin : 0 ≤ v4.toInt ∧ v4.toInt < ((28 : Nat) : Int) := ⟨by omega, by omega⟩
  have hJ : ∀ a b c : Int64, wq (fX12_placeOn_J79 N I0 L0 M0 x1 x2 x3 v4 a b c) (fun r => True) := by
    intro a b c
    unfold fX12_placeOn_J79
    refine wq_in hin (wq_in hin (wq_in hin ?_))
    refine wq_b (tt_fX12_floor hN _ _ (i64nz (by omega))) (fun r1 _ => wq_v (fun v2 _ => wq_v (fun v3 _ => ?_)))
    exact wq_i (fun _ => wq_s trivial) (fun _ => wq_s trivial)
  refine wq_in hin (wq_nz (by omega) (wq_v (fun v5 _ => ?_)))
  refine wq_in hin (wq_v (fun v6 _ => ?_))
  refine wq_in hin (wq_in hin ?_)
  exact wq_i (fun _ => hJ _ _ _) (fun _ => hJ _ _ _)
set_option maxHeartbeats 4000000 in
theorem tt_fX12_place {N : Nat} (hN : 3000000000 ≤ N) (I0 : Nat → Int32) (L0 : Int64) (M0 : Nat → Nat → Int32) (x1 : Int32) (x2 : Int32) (x3 : Int32) (k_I0 : KX12 I0 M0) : wq (fX12_place N I0 L0 M0 x1 x2 x3) (fun r => KX12 r.2.1 r.2.2.2 ∧ True) := by
  unfold fX12_place
  refine wq_v (fun I0_3_q26535 h_I0_3_q26535 => ?_)
  have k_I0_3_q26535 : KX12 I0_3_q26535 M0 := by rw [h_I0_3_q26535]; exact KX12.si0 k_I0
  have b_26536 := i32b x1
  have l_0 := il_0
  have l_3 := il_3
  refine wq_b (tt_fX12_within hN x1 (0 : Int32) (3 : Int32)) (fun r4_q26537 h_r4_q26537 => ?_)
  obtain ⟨h_r4_q26537_0, h_r4_q26537_1, -⟩ := h_r4_q26537
  refine wq_eq (fun hc_26538 => ?_) (fun hc_26539 => ?_)
  · unfold fX12_place_J39
    unfold fX12_place_J40
    have l_1 := il_1
    refine wq_b (tt_fX12_right hN I0_3_q26535 L0 M0 (0 : Int32) (1 : Int32) ⟨by omega, by omega⟩ k_I0_3_q26535) (fun r1_q26540 h_r1_q26540 => ?_)
    obtain ⟨h_r1_q26540_0, h_r1_q26540_1, h_r1_q26540_2, h_r1_q26540_3, -⟩ := h_r1_q26540
    have t_26541 := KX12.i1 h_r1_q26540_3
    have t_26542 := KX12.i1 k_I0
    have t_26543 : (I0_3_q26535 1).toInt = (I0 1).toInt := by rw [h_I0_3_q26535]; rfl
    refine wq_eq (fun hc_26544 => ?_) (fun hc_26545 => ?_)
    · exact wq_s ⟨h_r1_q26540_3, trivial⟩
    · have b_26546 := i32b x2
      have b_26547 := i32b x3
      refine wq_b (tt_fX12_placeOn hN r1_q26540.2.1 r1_q26540.2.2.1 r1_q26540.2.2.2 x1 x2 x3 ⟨by omega, by omega⟩ ⟨by omega, by omega⟩ h_r1_q26540_3) (fun r2_q26548 h_r2_q26548 => ?_)
      obtain ⟨-⟩ := h_r2_q26548
      have b_26549 := i32b r2_q26548
      exact wq_s ⟨h_r1_q26540_3, trivial⟩
  · have b_26550 := i32b x2
    have l_6 := il_6
    refine wq_b (tt_fX12_within hN x2 (0 : Int32) (6 : Int32)) (fun r5_q26551 h_r5_q26551 => ?_)
    obtain ⟨h_r5_q26551_0, h_r5_q26551_1, -⟩ := h_r5_q26551
    refine wq_eq (fun hc_26552 => ?_) (fun hc_26553 => ?_)
    · unfold fX12_place_J39
      unfold fX12_place_J40
      have l_1 := il_1
      refine wq_b (tt_fX12_right hN I0_3_q26535 L0 M0 (0 : Int32) (1 : Int32) ⟨by omega, by omega⟩ k_I0_3_q26535) (fun r1_q26554 h_r1_q26554 => ?_)
      obtain ⟨h_r1_q26554_0, h_r1_q26554_1, h_r1_q26554_2, h_r1_q26554_3, -⟩ := h_r1_q26554
      have t_26555 := KX12.i1 h_r1_q26554_3
      have t_26556 := KX12.i1 k_I0
      have t_26557 : (I0_3_q26535 1).toInt = (I0 1).toInt := by rw [h_I0_3_q26535]; rfl
      refine wq_eq (fun hc_26558 => ?_) (fun hc_26559 => ?_)
      · exact wq_s ⟨h_r1_q26554_3, trivial⟩
      · have b_26560 := i32b x3
        refine wq_b (tt_fX12_placeOn hN r1_q26554.2.1 r1_q26554.2.2.1 r1_q26554.2.2.2 x1 x2 x3 ⟨by omega, by omega⟩ ⟨by omega, by omega⟩ h_r1_q26554_3) (fun r2_q26561 h_r2_q26561 => ?_)
        obtain ⟨-⟩ := h_r2_q26561
        have b_26562 := i32b r2_q26561
        exact wq_s ⟨h_r1_q26554_3, trivial⟩
    · have b_26563 := i32b x3
      have l_1000000 := il_1000000
      refine wq_b (tt_fX12_within hN x3 (0 : Int32) (1000000 : Int32)) (fun r6_q26564 h_r6_q26564 => ?_)
      obtain ⟨h_r6_q26564_0, h_r6_q26564_1, -⟩ := h_r6_q26564
      refine wq_eq (fun hc_26565 => ?_) (fun hc_26566 => ?_)
      · unfold fX12_place_J39
        unfold fX12_place_J40
        have l_1 := il_1
        refine wq_b (tt_fX12_right hN I0_3_q26535 L0 M0 (0 : Int32) (1 : Int32) ⟨by omega, by omega⟩ k_I0_3_q26535) (fun r1_q26567 h_r1_q26567 => ?_)
        obtain ⟨h_r1_q26567_0, h_r1_q26567_1, h_r1_q26567_2, h_r1_q26567_3, -⟩ := h_r1_q26567
        have t_26568 := KX12.i1 h_r1_q26567_3
        have t_26569 := KX12.i1 k_I0
        have t_26570 : (I0_3_q26535 1).toInt = (I0 1).toInt := by rw [h_I0_3_q26535]; rfl
        refine wq_eq (fun hc_26571 => ?_) (fun hc_26572 => ?_)
        · exact wq_s ⟨h_r1_q26567_3, trivial⟩
        · refine wq_b (tt_fX12_placeOn hN r1_q26567.2.1 r1_q26567.2.2.1 r1_q26567.2.2.2 x1 x2 x3 ⟨by omega, by omega⟩ ⟨by omega, by omega⟩ h_r1_q26567_3) (fun r2_q26573 h_r2_q26573 => ?_)
          obtain ⟨-⟩ := h_r2_q26573
          have b_26574 := i32b r2_q26573
          exact wq_s ⟨h_r1_q26567_3, trivial⟩
      · unfold fX12_place_J40
        have l_1 := il_1
        refine wq_b (tt_fX12_right hN I0_3_q26535 L0 M0 (1 : Int32) (1 : Int32) ⟨by omega, by omega⟩ k_I0_3_q26535) (fun r1_q26575 h_r1_q26575 => ?_)
        obtain ⟨h_r1_q26575_0, h_r1_q26575_1, h_r1_q26575_2, h_r1_q26575_3, -⟩ := h_r1_q26575
        have t_26576 := KX12.i1 h_r1_q26575_3
        have t_26577 := KX12.i1 k_I0
        have t_26578 : (I0_3_q26535 1).toInt = (I0 1).toInt := by rw [h_I0_3_q26535]; rfl
        refine wq_eq (fun hc_26579 => ?_) (fun hc_26580 => ?_)
        · exact wq_s ⟨h_r1_q26575_3, trivial⟩
        · refine wq_b (tt_fX12_placeOn hN r1_q26575.2.1 r1_q26575.2.2.1 r1_q26575.2.2.2 x1 x2 x3 ⟨by omega, by omega⟩ ⟨by omega, by omega⟩ h_r1_q26575_3) (fun r2_q26581 h_r2_q26581 => ?_)
          obtain ⟨-⟩ := h_r2_q26581
          have b_26582 := i32b r2_q26581
          exact wq_s ⟨h_r1_q26575_3, trivial⟩
set_option maxHeartbeats 4000000 in
theorem tt_fX12_entry {N : Nat} (hN : 3000000000 ≤ N) (I0 : Nat → Int32) (L0 : Int64) (M0 : Nat → Nat → Int32) (x1 : Int32) (x2 : Int32) (x3 : Int32) (k_I0 : KX12 I0 M0) : wq (fX12_entry N I0 L0 M0 x1 x2 x3) (fun r => (-1 ≤ r.1.toInt ∧ r.1.toInt ≤ 389) ∧ KX12 r.2.1 r.2.2.2 ∧ True) := by
  unfold fX12_entry
  have b_26679 := i32b x1
  have b_26680 := i32b x2
  refine wq_b (tt_fX12_isWheel hN I0 L0 M0 x1 x2 k_I0) (fun r1_q26681 h_r1_q26681 => ?_)
  obtain ⟨h_r1_q26681_0, h_r1_q26681_1, h_r1_q26681_2, h_r1_q26681_3, -⟩ := h_r1_q26681
  have t_26682 := KX12.i1 h_r1_q26681_3
  have t_26683 := KX12.i1 k_I0
  have l_0 := il_0
  refine wq_eq (fun hc_26684 => ?_) (fun hc_26685 => ?_)
  · exact wq_s ⟨(show -1 ≤ (0 : Int32).toInt ∧ (0 : Int32).toInt ≤ 389 from ⟨by omega, by omega⟩), h_r1_q26681_3, trivial⟩
  · have b_26686 := i32b x3
    have l_21 := il_21
    refine wq_b (tt_fX12_within hN x3 (0 : Int32) (21 : Int32)) (fun r2_q26687 h_r2_q26687 => ?_)
    obtain ⟨h_r2_q26687_0, h_r2_q26687_1, -⟩ := h_r2_q26687
    have l_1 := il_1
    refine wq_b (tt_fX12_right hN r1_q26681.2.1 r1_q26681.2.2.1 r1_q26681.2.2.2 r2_q26687 (1 : Int32) ⟨by omega, by omega⟩ h_r1_q26681_3) (fun r3_q26688 h_r3_q26688 => ?_)
    obtain ⟨h_r3_q26688_0, h_r3_q26688_1, h_r3_q26688_2, h_r3_q26688_3, -⟩ := h_r3_q26688
    have t_26689 := KX12.i1 h_r3_q26688_3
    refine wq_eq (fun hc_26690 => ?_) (fun hc_26691 => ?_)
    · exact wq_s ⟨(show -1 ≤ (0 : Int32).toInt ∧ (0 : Int32).toInt ≤ 389 from ⟨by omega, by omega⟩), h_r3_q26688_3, trivial⟩
    · have l_20 := il_20
      have t_26692 := ia_mul (20 : Int32) (20) il_20 x1 (by omega) (by omega)
      have t_26693 := ia_add ((20 : Int32) * x1) x2 (by omega) (by omega)
      refine wq_b (tt_fX12_at hN r3_q26688.2.1 r3_q26688.2.2.1 r3_q26688.2.2.2 (((20 : Int32) * x1) + x2) x3 ⟨by omega, by omega⟩ ⟨by omega, by omega⟩ h_r3_q26688_3) (fun r4_q26694 h_r4_q26694 => ?_)
      obtain ⟨h_r4_q26694_0, h_r4_q26694_1, h_r4_q26694_2, -⟩ := h_r4_q26694
      exact wq_s ⟨(show -1 ≤ r4_q26694.toInt ∧ r4_q26694.toInt ≤ 389 from ⟨by omega, by omega⟩), h_r3_q26688_3, trivial⟩
set_option maxHeartbeats 4000000 in
theorem tt_fX12_isHand_L5 {N : Nat} (hN : 3000000000 ≤ N) (I0 : Nat → Int32) (L0 : Int64) (M0 : Nat → Nat → Int32) (x1 : Int32) (x2 : Int32) (k_I0 : KX12 I0 M0)  : ∀ (fu : Nat) (y5_3 : Int32) (y5_4 : Int32), (0 ≤ y5_3.toInt ∧ y5_3.toInt ≤ 1) → (0 ≤ y5_4.toInt ∧ y5_4.toInt ≤ 30) → (30 - y5_4.toInt) < (fu : Int) → wq (fX12_isHand_L5 N I0 L0 M0 x1 x2 fu y5_3 y5_4) (fun r => (0 ≤ r.toInt ∧ r.toInt ≤ 1) ∧ True) := by
  intro fu
  induction fu with
  | zero => intro y5_3 y5_4 h_y5_3 h_y5_4 hm; exfalso; omega
  | succ fu ih =>
    intro y5_3 y5_4 h_y5_3 h_y5_4 hm
    rw [fX12_isHand_L5.eq_2]
    have t_26884 := KX12.i2 k_I0
    refine wq_le (fun hc_26885 => ?_) (fun hc_26886 => ?_)
    · refine wq_bz (by omega) ?_
      exact wq_s ⟨(show 0 ≤ y5_3.toInt ∧ y5_3.toInt ≤ 1 from ⟨by omega, by omega⟩), trivial⟩
    · have l_0 := il_0
      refine wq_eq (fun hc_26887 => ?_) (fun hc_26888 => ?_)
      · refine wq_in (n := 30) ⟨by omega, by omega⟩ ?_
        have b_26889 := i32b x1
        refine wq_eq (fun hc_26890 => ?_) (fun hc_26891 => ?_)
        · refine wq_in (n := 30) ⟨by omega, by omega⟩ ?_
          have b_26892 := i32b x2
          refine wq_eq (fun hc_26893 => ?_) (fun hc_26894 => ?_)
          · have l_1 := il_1
            have t_26896 := ia_add y5_4 (1 : Int32) (by omega) (by omega)
            refine wq_v (fun v4_q26895 h_v4_q26895 => ?_)
            have t_v4_q26895 := congrArg Int32.toInt h_v4_q26895
            exact ih (1 : Int32) v4_q26895 ⟨by omega, by omega⟩ ⟨by omega, by omega⟩ (by omega)
          · have l_1 := il_1
            have t_26898 := ia_add y5_4 (1 : Int32) (by omega) (by omega)
            refine wq_v (fun v3_q26897 h_v3_q26897 => ?_)
            have t_v3_q26897 := congrArg Int32.toInt h_v3_q26897
            exact ih (0 : Int32) v3_q26897 ⟨by omega, by omega⟩ ⟨by omega, by omega⟩ (by omega)
        · have l_1 := il_1
          have t_26900 := ia_add y5_4 (1 : Int32) (by omega) (by omega)
          refine wq_v (fun v2_q26899 h_v2_q26899 => ?_)
          have t_v2_q26899 := congrArg Int32.toInt h_v2_q26899
          exact ih (0 : Int32) v2_q26899 ⟨by omega, by omega⟩ ⟨by omega, by omega⟩ (by omega)
      · have l_1 := il_1
        have t_26902 := ia_add y5_4 (1 : Int32) (by omega) (by omega)
        refine wq_v (fun v1_q26901 h_v1_q26901 => ?_)
        have t_v1_q26901 := congrArg Int32.toInt h_v1_q26901
        exact ih (1 : Int32) v1_q26901 ⟨by omega, by omega⟩ ⟨by omega, by omega⟩ (by omega)
set_option maxHeartbeats 4000000 in
theorem tt_fX12_isHand {N : Nat} (hN : 3000000000 ≤ N) (I0 : Nat → Int32) (L0 : Int64) (M0 : Nat → Nat → Int32) (x1 : Int32) (x2 : Int32) (k_I0 : KX12 I0 M0) : wq (fX12_isHand N I0 L0 M0 x1 x2) (fun r => (0 ≤ r.toInt ∧ r.toInt ≤ 1) ∧ True) := by
  unfold fX12_isHand
  have b_26903 := i32b x1
  have b_26904 := i32b x2
  have l_0 := il_0
  exact tt_fX12_isHand_L5 hN I0 L0 M0 x1 x2 k_I0 N (0 : Int32) (0 : Int32) ⟨by omega, by omega⟩ ⟨by omega, by omega⟩ (by omega)
set_option maxHeartbeats 4000000 in
theorem tt_fX12_beside {N : Nat} (hN : 3000000000 ≤ N) (I0 : Nat → Int32) (L0 : Int64) (M0 : Nat → Nat → Int32) (x1 : Int32) (x2 : Int32) (h_x1 : 0 ≤ x1.toInt ∧ x1.toInt ≤ 389) (k_I0 : KX12 I0 M0) : wq (fX12_beside N I0 L0 M0 x1 x2) (fun r => (0 ≤ r.toInt ∧ r.toInt ≤ 9) ∧ True) := by
  unfold fX12_beside
  have b_27025 := i32b x2
  refine wq_eq (fun hc_27026 => ?_) (fun hc_27027 => ?_)
  · have l_0 := il_0
    exact wq_s ⟨(show 0 ≤ (0 : Int32).toInt ∧ (0 : Int32).toInt ≤ 9 from ⟨by omega, by omega⟩), trivial⟩
  · have l_30 := il_30
    have t_27028 := ia_div x1 (30 : Int32) 30 il_30 (by decide) (by omega)
    have t_27029 := i32b x2
    have t_27030 := ia_div2 x2 (30 : Int32) 30 il_30 (by decide)
    refine wq_eq (fun hc_27031 => ?_) (fun hc_27032 => ?_)
    · have t_27033 := ia_rem x1 (30 : Int32) 30 il_30 (by decide) (by omega)
      have t_27034 := ia_rem2 x2 (30 : Int32) 30 il_30 (by decide)
      refine wq_b (tt_fX12_isHand hN I0 L0 M0 (x1 - ((x1 / (30 : Int32)) * (30 : Int32))) (x2 - ((x2 / (30 : Int32)) * (30 : Int32))) k_I0) (fun r2_q27035 h_r2_q27035 => ?_)
      obtain ⟨h_r2_q27035_0, -⟩ := h_r2_q27035
      have l_0 := il_0
      refine wq_eq (fun hc_27036 => ?_) (fun hc_27037 => ?_)
      · have l_9 := il_9
        exact wq_s ⟨(show 0 ≤ (9 : Int32).toInt ∧ (9 : Int32).toInt ≤ 9 from ⟨by omega, by omega⟩), trivial⟩
      · have l_1 := il_1
        exact wq_s ⟨(show 0 ≤ (1 : Int32).toInt ∧ (1 : Int32).toInt ≤ 9 from ⟨by omega, by omega⟩), trivial⟩
    · have t_27038 := ia_rem x1 (30 : Int32) 30 il_30 (by decide) (by omega)
      have t_27039 := ia_rem2 x2 (30 : Int32) 30 il_30 (by decide)
      refine wq_eq (fun hc_27040 => ?_) (fun hc_27041 => ?_)
      · refine wq_b (tt_fX12_isHand hN I0 L0 M0 (x1 / (30 : Int32)) (x2 / (30 : Int32)) k_I0) (fun r1_q27042 h_r1_q27042 => ?_)
        obtain ⟨h_r1_q27042_0, -⟩ := h_r1_q27042
        have l_0 := il_0
        refine wq_eq (fun hc_27043 => ?_) (fun hc_27044 => ?_)
        · have l_9 := il_9
          exact wq_s ⟨(show 0 ≤ (9 : Int32).toInt ∧ (9 : Int32).toInt ≤ 9 from ⟨by omega, by omega⟩), trivial⟩
        · have l_2 := il_2
          exact wq_s ⟨(show 0 ≤ (2 : Int32).toInt ∧ (2 : Int32).toInt ≤ 9 from ⟨by omega, by omega⟩), trivial⟩
      · have l_9 := il_9
        exact wq_s ⟨(show 0 ≤ (9 : Int32).toInt ∧ (9 : Int32).toInt ≤ 9 from ⟨by omega, by omega⟩), trivial⟩
set_option maxHeartbeats 4000000 in
theorem tt_fX12_costOf {N : Nat} (hN : 3000000000 ≤ N) (I0 : Nat → Int32) (L0 : Int64) (M0 : Nat → Nat → Int32) (x1 : Int32) (x2 : Int32) (h_x1 : 0 ≤ x1.toInt ∧ x1.toInt ≤ 389) (k_I0 : KX12 I0 M0) : wq (fX12_costOf N I0 L0 M0 x1 x2) (fun r => (0 ≤ r.toInt ∧ r.toInt ≤ 9) ∧ True) := by
  unfold fX12_costOf
  have b_27069 := i32b x2
  refine wq_b (tt_fX12_beside hN I0 L0 M0 x1 x2 ⟨by omega, by omega⟩ k_I0) (fun r1_q27070 h_r1_q27070 => ?_)
  obtain ⟨h_r1_q27070_0, -⟩ := h_r1_q27070
  have l_2 := il_2
  refine wq_eq (fun hc_27071 => ?_) (fun hc_27072 => ?_)
  · have l_1 := il_1
    exact wq_s ⟨(show 0 ≤ (1 : Int32).toInt ∧ (1 : Int32).toInt ≤ 9 from ⟨by omega, by omega⟩), trivial⟩
  · exact wq_s ⟨(show 0 ≤ r1_q27070.toInt ∧ r1_q27070.toInt ≤ 9 from ⟨by omega, by omega⟩), trivial⟩
set_option maxHeartbeats 4000000 in
theorem tt_fX12_costOn_L37 {N : Nat} (hN : 3000000000 ≤ N) (I0 : Nat → Int32) (L0 : Int64) (M0 : Nat → Nat → Int32) (x1 : Int32) (x2 : Int32) (x3 : Int32) (x4 : Int32) (h_x1 : 0 ≤ x1.toInt ∧ x1.toInt ≤ 119) (h_x2 : 0 ≤ x2.toInt ∧ x2.toInt ≤ 3) (k_I0 : KX12 I0 M0)  : ∀ (fu : Nat) (y37_5 : Int32) (y37_6 : Int32), (0 ≤ y37_5.toInt ∧ y37_5.toInt ≤ 93) → (0 ≤ y37_6.toInt ∧ y37_6.toInt ≤ 7) → (y37_5.toInt ≤ 30 + 9 * y37_6.toInt) → (7 - y37_6.toInt) < (fu : Int) → wq (fX12_costOn_L37 N I0 L0 M0 x1 x2 x3 x4 fu y37_5 y37_6) (fun r => (0 ≤ r.toInt ∧ r.toInt ≤ 93) ∧ True) := by
  intro fu
  induction fu with
  | zero => intro y37_5 y37_6 h_y37_5 h_y37_6 hl_2 hm; exfalso; omega
  | succ fu ih =>
    intro y37_5 y37_6 h_y37_5 h_y37_6 hl_2 hm
    rw [fX12_costOn_L37.eq_2]
    have l_7 := il_7
    refine wq_le (fun hc_27436 => ?_) (fun hc_27437 => ?_)
    · exact wq_s ⟨(show 0 ≤ y37_5.toInt ∧ y37_5.toInt ≤ 93 from ⟨by omega, by omega⟩), trivial⟩
    · have b_27438 := i32b x4
      refine wq_lt (fun hc_27439 => ?_) (fun hc_27440 => ?_)
      · exact wq_s ⟨(show 0 ≤ y37_5.toInt ∧ y37_5.toInt ≤ 93 from ⟨by omega, by omega⟩), trivial⟩
      · refine wq_b (tt_fX12_at hN I0 L0 M0 x1 y37_6 ⟨by omega, by omega⟩ ⟨by omega, by omega⟩ k_I0) (fun r1_q27441 h_r1_q27441 => ?_)
        obtain ⟨h_r1_q27441_0, h_r1_q27441_1, h_r1_q27441_2, -⟩ := h_r1_q27441
        have l_m1 := il_m1
        refine wq_eq (fun hc_27442 => ?_) (fun hc_27443 => ?_)
        · have l_1 := il_1
          have t_27445 := ia_add y37_6 (1 : Int32) (by omega) (by omega)
          refine wq_v (fun v2_q27444 h_v2_q27444 => ?_)
          have t_v2_q27444 := congrArg Int32.toInt h_v2_q27444
          exact ih y37_5 v2_q27444 ⟨by omega, by omega⟩ ⟨by omega, by omega⟩ (by omega) (by omega)
        · refine wq_b (tt_fX12_at hN I0 L0 M0 x1 y37_6 ⟨by omega, by omega⟩ ⟨by omega, by omega⟩ k_I0) (fun r3_q27446 h_r3_q27446 => ?_)
          obtain ⟨h_r3_q27446_0, h_r3_q27446_1, h_r3_q27446_2, -⟩ := h_r3_q27446
          have b_27447 := i32b x3
          refine wq_b (tt_fX12_placeOn hN I0 L0 M0 x2 y37_6 x3 ⟨by omega, by omega⟩ ⟨by omega, by omega⟩ k_I0) (fun r4_q27448 h_r4_q27448 => ?_)
          obtain ⟨-⟩ := h_r4_q27448
          have b_27449 := i32b r4_q27448
          have l_60 := il_60
          have t_27450 := i32b r4_q27448
          have t_27451 := ia_div2 r4_q27448 (60 : Int32) 60 il_60 (by decide)
          refine wq_b (tt_fX12_costOf hN I0 L0 M0 r3_q27446 (r4_q27448 / (60 : Int32)) ⟨by omega, by omega⟩ k_I0) (fun r5_q27452 h_r5_q27452 => ?_)
          obtain ⟨h_r5_q27452_0, -⟩ := h_r5_q27452
          have t_27454 := ia_add y37_5 r5_q27452 (by omega) (by omega)
          refine wq_v (fun v6_q27453 h_v6_q27453 => ?_)
          have t_v6_q27453 := congrArg Int32.toInt h_v6_q27453
          have l_1 := il_1
          have t_27456 := ia_add y37_6 (1 : Int32) (by omega) (by omega)
          refine wq_v (fun v7_q27455 h_v7_q27455 => ?_)
          have t_v7_q27455 := congrArg Int32.toInt h_v7_q27455
          exact ih v6_q27453 v7_q27455 ⟨by omega, by omega⟩ ⟨by omega, by omega⟩ (by omega) (by omega)
set_option maxHeartbeats 4000000 in
theorem tt_fX12_costOn {N : Nat} (hN : 3000000000 ≤ N) (I0 : Nat → Int32) (L0 : Int64) (M0 : Nat → Nat → Int32) (x1 : Int32) (x2 : Int32) (x3 : Int32) (x4 : Int32) (h_x1 : 0 ≤ x1.toInt ∧ x1.toInt ≤ 119) (h_x2 : 0 ≤ x2.toInt ∧ x2.toInt ≤ 3) (k_I0 : KX12 I0 M0) : wq (fX12_costOn N I0 L0 M0 x1 x2 x3 x4) (fun r => (0 ≤ r.toInt ∧ r.toInt ≤ 93) ∧ True) := by
  unfold fX12_costOn
  have l_21 := il_21
  refine wq_b (tt_fX12_at hN I0 L0 M0 x1 (21 : Int32) ⟨by omega, by omega⟩ ⟨by omega, by omega⟩ k_I0) (fun r8_q27457 h_r8_q27457 => ?_)
  obtain ⟨h_r8_q27457_0, h_r8_q27457_1, h_r8_q27457_2, -⟩ := h_r8_q27457
  have l_m1 := il_m1
  refine wq_eq (fun hc_27458 => ?_) (fun hc_27459 => ?_)
  · unfold fX12_costOn_J31
    unfold fX12_costOn_J32
    have b_27460 := i32b x3
    have b_27461 := i32b x4
    have l_0 := il_0
    exact tt_fX12_costOn_L37 hN I0 L0 M0 x1 x2 x3 x4 ⟨by omega, by omega⟩ ⟨by omega, by omega⟩ k_I0 N (0 : Int32) (0 : Int32) ⟨by omega, by omega⟩ ⟨by omega, by omega⟩ (by omega) (by omega)
  · refine wq_b (tt_fX12_at hN I0 L0 M0 x1 (21 : Int32) ⟨by omega, by omega⟩ ⟨by omega, by omega⟩ k_I0) (fun r9b_q27462 h_r9b_q27462 => ?_)
    obtain ⟨h_r9b_q27462_0, h_r9b_q27462_1, h_r9b_q27462_2, -⟩ := h_r9b_q27462
    have b_27463 := i32b x3
    have l_365 := il_365
    have t_27464 := ia_rem2 x3 (365 : Int32) 365 il_365 (by decide)
    refine wq_eq (fun hc_27465 => ?_) (fun hc_27466 => ?_)
    · unfold fX12_costOn_J31
      unfold fX12_costOn_J32
      have b_27467 := i32b x4
      have l_0 := il_0
      exact tt_fX12_costOn_L37 hN I0 L0 M0 x1 x2 x3 x4 ⟨by omega, by omega⟩ ⟨by omega, by omega⟩ k_I0 N (0 : Int32) (0 : Int32) ⟨by omega, by omega⟩ ⟨by omega, by omega⟩ (by omega) (by omega)
    · unfold fX12_costOn_J32
      have b_27468 := i32b x4
      have l_30 := il_30
      have l_0 := il_0
      exact tt_fX12_costOn_L37 hN I0 L0 M0 x1 x2 x3 x4 ⟨by omega, by omega⟩ ⟨by omega, by omega⟩ k_I0 N (30 : Int32) (0 : Int32) ⟨by omega, by omega⟩ ⟨by omega, by omega⟩ (by omega) (by omega)
set_option maxHeartbeats 4000000 in
theorem tt_fX12_cost {N : Nat} (hN : 3000000000 ≤ N) (I0 : Nat → Int32) (L0 : Int64) (M0 : Nat → Nat → Int32) (x1 : Int32) (x2 : Int32) (x3 : Int32) (x4 : Int32) (k_I0 : KX12 I0 M0) : wq (fX12_cost N I0 L0 M0 x1 x2 x3 x4) (fun r => (0 ≤ r.1.toInt ∧ r.1.toInt ≤ 93) ∧ KX12 r.2.1 r.2.2.2 ∧ True) := by
  unfold fX12_cost
  have b_27691 := i32b x1
  have b_27692 := i32b x2
  refine wq_b (tt_fX12_isWheel hN I0 L0 M0 x1 x2 k_I0) (fun r3_q27693 h_r3_q27693 => ?_)
  obtain ⟨h_r3_q27693_0, h_r3_q27693_1, h_r3_q27693_2, h_r3_q27693_3, -⟩ := h_r3_q27693
  have t_27694 := KX12.i1 h_r3_q27693_3
  have t_27695 := KX12.i1 k_I0
  have l_0 := il_0
  refine wq_eq (fun hc_27696 => ?_) (fun hc_27697 => ?_)
  · exact wq_s ⟨(show 0 ≤ (0 : Int32).toInt ∧ (0 : Int32).toInt ≤ 93 from ⟨by omega, by omega⟩), h_r3_q27693_3, trivial⟩
  · have b_27698 := i32b x3
    have l_3 := il_3
    refine wq_b (tt_fX12_within hN x3 (0 : Int32) (3 : Int32)) (fun r4_q27699 h_r4_q27699 => ?_)
    obtain ⟨h_r4_q27699_0, h_r4_q27699_1, -⟩ := h_r4_q27699
    refine wq_eq (fun hc_27700 => ?_) (fun hc_27701 => ?_)
    · unfold fX12_cost_J34
      unfold fX12_cost_J35
      have l_1 := il_1
      refine wq_b (tt_fX12_right hN r3_q27693.2.1 r3_q27693.2.2.1 r3_q27693.2.2.2 (0 : Int32) (1 : Int32) ⟨by omega, by omega⟩ h_r3_q27693_3) (fun r1_q27702 h_r1_q27702 => ?_)
      obtain ⟨h_r1_q27702_0, h_r1_q27702_1, h_r1_q27702_2, h_r1_q27702_3, -⟩ := h_r1_q27702
      have t_27703 := KX12.i1 h_r1_q27702_3
      refine wq_eq (fun hc_27704 => ?_) (fun hc_27705 => ?_)
      · exact wq_s ⟨(show 0 ≤ (0 : Int32).toInt ∧ (0 : Int32).toInt ≤ 93 from ⟨by omega, by omega⟩), h_r1_q27702_3, trivial⟩
      · have l_20 := il_20
        have t_27706 := ia_mul (20 : Int32) (20) il_20 x1 (by omega) (by omega)
        have t_27707 := ia_add ((20 : Int32) * x1) x2 (by omega) (by omega)
        have b_27708 := i32b x4
        have l_999 := il_999
        refine wq_b (tt_fX12_costOn hN r1_q27702.2.1 r1_q27702.2.2.1 r1_q27702.2.2.2 (((20 : Int32) * x1) + x2) x3 x4 (999 : Int32) ⟨by omega, by omega⟩ ⟨by omega, by omega⟩ h_r1_q27702_3) (fun r2_q27709 h_r2_q27709 => ?_)
        obtain ⟨h_r2_q27709_0, -⟩ := h_r2_q27709
        exact wq_s ⟨(show 0 ≤ r2_q27709.toInt ∧ r2_q27709.toInt ≤ 93 from ⟨by omega, by omega⟩), h_r1_q27702_3, trivial⟩
    · have b_27710 := i32b x4
      have l_1000000 := il_1000000
      refine wq_b (tt_fX12_within hN x4 (0 : Int32) (1000000 : Int32)) (fun r5_q27711 h_r5_q27711 => ?_)
      obtain ⟨h_r5_q27711_0, h_r5_q27711_1, -⟩ := h_r5_q27711
      refine wq_eq (fun hc_27712 => ?_) (fun hc_27713 => ?_)
      · unfold fX12_cost_J34
        unfold fX12_cost_J35
        have l_1 := il_1
        refine wq_b (tt_fX12_right hN r3_q27693.2.1 r3_q27693.2.2.1 r3_q27693.2.2.2 (0 : Int32) (1 : Int32) ⟨by omega, by omega⟩ h_r3_q27693_3) (fun r1_q27714 h_r1_q27714 => ?_)
        obtain ⟨h_r1_q27714_0, h_r1_q27714_1, h_r1_q27714_2, h_r1_q27714_3, -⟩ := h_r1_q27714
        have t_27715 := KX12.i1 h_r1_q27714_3
        refine wq_eq (fun hc_27716 => ?_) (fun hc_27717 => ?_)
        · exact wq_s ⟨(show 0 ≤ (0 : Int32).toInt ∧ (0 : Int32).toInt ≤ 93 from ⟨by omega, by omega⟩), h_r1_q27714_3, trivial⟩
        · have l_20 := il_20
          have t_27718 := ia_mul (20 : Int32) (20) il_20 x1 (by omega) (by omega)
          have t_27719 := ia_add ((20 : Int32) * x1) x2 (by omega) (by omega)
          have l_999 := il_999
          refine wq_b (tt_fX12_costOn hN r1_q27714.2.1 r1_q27714.2.2.1 r1_q27714.2.2.2 (((20 : Int32) * x1) + x2) x3 x4 (999 : Int32) ⟨by omega, by omega⟩ ⟨by omega, by omega⟩ h_r1_q27714_3) (fun r2_q27720 h_r2_q27720 => ?_)
          obtain ⟨h_r2_q27720_0, -⟩ := h_r2_q27720
          exact wq_s ⟨(show 0 ≤ r2_q27720.toInt ∧ r2_q27720.toInt ≤ 93 from ⟨by omega, by omega⟩), h_r1_q27714_3, trivial⟩
      · unfold fX12_cost_J35
        have l_1 := il_1
        refine wq_b (tt_fX12_right hN r3_q27693.2.1 r3_q27693.2.2.1 r3_q27693.2.2.2 (1 : Int32) (1 : Int32) ⟨by omega, by omega⟩ h_r3_q27693_3) (fun r1_q27721 h_r1_q27721 => ?_)
        obtain ⟨h_r1_q27721_0, h_r1_q27721_1, h_r1_q27721_2, h_r1_q27721_3, -⟩ := h_r1_q27721
        have t_27722 := KX12.i1 h_r1_q27721_3
        refine wq_eq (fun hc_27723 => ?_) (fun hc_27724 => ?_)
        · exact wq_s ⟨(show 0 ≤ (0 : Int32).toInt ∧ (0 : Int32).toInt ≤ 93 from ⟨by omega, by omega⟩), h_r1_q27721_3, trivial⟩
        · have l_20 := il_20
          have t_27725 := ia_mul (20 : Int32) (20) il_20 x1 (by omega) (by omega)
          have t_27726 := ia_add ((20 : Int32) * x1) x2 (by omega) (by omega)
          have l_999 := il_999
          refine wq_b (tt_fX12_costOn hN r1_q27721.2.1 r1_q27721.2.2.1 r1_q27721.2.2.2 (((20 : Int32) * x1) + x2) x3 x4 (999 : Int32) ⟨by omega, by omega⟩ ⟨by omega, by omega⟩ h_r1_q27721_3) (fun r2_q27727 h_r2_q27727 => ?_)
          obtain ⟨h_r2_q27727_0, -⟩ := h_r2_q27727
          exact wq_s ⟨(show 0 ≤ r2_q27727.toInt ∧ r2_q27727.toInt ≤ 93 from ⟨by omega, by omega⟩), h_r1_q27721_3, trivial⟩
set_option maxHeartbeats 4000000 in
theorem tt_fX12_isSpan {N : Nat} (hN : 3000000000 ≤ N) (I0 : Nat → Int32) (L0 : Int64) (M0 : Nat → Nat → Int32) (x1 : Int32) (x2 : Int32) (k_I0 : KX12 I0 M0) : wq (fX12_isSpan N I0 L0 M0 x1 x2) (fun r => (r.1.toInt = 0 ∨ (r.1.toInt = 1 ∧ 0 ≤ x1.toInt ∧ x1.toInt ≤ 1000000 ∧ 0 ≤ x2.toInt ∧ x2.toInt ≤ 50000 ∧ x1.toInt + x2.toInt ≤ 1000000)) ∧ (r.2.1 1).toInt = (I0 1).toInt ∧ (0 ≤ r.1.toInt ∧ r.1.toInt ≤ 1) ∧ KX12 r.2.1 r.2.2.2 ∧ True) := by
  unfold fX12_isSpan
  have b_27884 := i32b x1
  have l_0 := il_0
  have l_1000000 := il_1000000
  refine wq_b (tt_fX12_within hN x1 (0 : Int32) (1000000 : Int32)) (fun r2_q27885 h_r2_q27885 => ?_)
  obtain ⟨h_r2_q27885_0, h_r2_q27885_1, -⟩ := h_r2_q27885
  have l_1 := il_1
  refine wq_b (tt_fX12_right hN I0 L0 M0 r2_q27885 (1 : Int32) ⟨by omega, by omega⟩ k_I0) (fun r3_q27886 h_r3_q27886 => ?_)
  obtain ⟨h_r3_q27886_0, h_r3_q27886_1, h_r3_q27886_2, h_r3_q27886_3, -⟩ := h_r3_q27886
  have t_27887 := KX12.i1 h_r3_q27886_3
  have t_27888 := KX12.i1 k_I0
  refine wq_eq (fun hc_27889 => ?_) (fun hc_27890 => ?_)
  · have b_27891 := i32b x2
    exact wq_s ⟨(show ((0 : Int32).toInt = 0 ∨ ((0 : Int32).toInt = 1 ∧ 0 ≤ x1.toInt ∧ x1.toInt ≤ 1000000 ∧ 0 ≤ x2.toInt ∧ x2.toInt ≤ 50000 ∧ x1.toInt + x2.toInt ≤ 1000000)) from by omega), (show (r3_q27886.2.1 1).toInt = (I0 1).toInt from by omega), (show 0 ≤ (0 : Int32).toInt ∧ (0 : Int32).toInt ≤ 1 from ⟨by omega, by omega⟩), h_r3_q27886_3, trivial⟩
  · have b_27892 := i32b x2
    have l_50000 := il_50000
    refine wq_b (tt_fX12_within hN x2 (0 : Int32) (50000 : Int32)) (fun r4_q27893 h_r4_q27893 => ?_)
    obtain ⟨h_r4_q27893_0, h_r4_q27893_1, -⟩ := h_r4_q27893
    refine wq_eq (fun hc_27894 => ?_) (fun hc_27895 => ?_)
    · unfold fX12_isSpan_J39
      have l_2 := il_2
      refine wq_b (tt_fX12_right hN r3_q27886.2.1 r3_q27886.2.2.1 r3_q27886.2.2.2 (0 : Int32) (2 : Int32) ⟨by omega, by omega⟩ h_r3_q27886_3) (fun r1_q27896 h_r1_q27896 => ?_)
      obtain ⟨h_r1_q27896_0, h_r1_q27896_1, h_r1_q27896_2, h_r1_q27896_3, -⟩ := h_r1_q27896
      have t_27897 := KX12.i1 h_r1_q27896_3
      refine wq_eq (fun hc_27898 => ?_) (fun hc_27899 => ?_)
      · exact wq_s ⟨(show ((0 : Int32).toInt = 0 ∨ ((0 : Int32).toInt = 1 ∧ 0 ≤ x1.toInt ∧ x1.toInt ≤ 1000000 ∧ 0 ≤ x2.toInt ∧ x2.toInt ≤ 50000 ∧ x1.toInt + x2.toInt ≤ 1000000)) from by omega), (show (r1_q27896.2.1 1).toInt = (I0 1).toInt from by omega), (show 0 ≤ (0 : Int32).toInt ∧ (0 : Int32).toInt ≤ 1 from ⟨by omega, by omega⟩), h_r1_q27896_3, trivial⟩
      · exact wq_s ⟨(show ((1 : Int32).toInt = 0 ∨ ((1 : Int32).toInt = 1 ∧ 0 ≤ x1.toInt ∧ x1.toInt ≤ 1000000 ∧ 0 ≤ x2.toInt ∧ x2.toInt ≤ 50000 ∧ x1.toInt + x2.toInt ≤ 1000000)) from by omega), (show (r1_q27896.2.1 1).toInt = (I0 1).toInt from by omega), (show 0 ≤ (1 : Int32).toInt ∧ (1 : Int32).toInt ≤ 1 from ⟨by omega, by omega⟩), h_r1_q27896_3, trivial⟩
    · have t_27900 := ia_add x1 x2 (by omega) (by omega)
      refine wq_lt (fun hc_27901 => ?_) (fun hc_27902 => ?_)
      · unfold fX12_isSpan_J39
        have l_2 := il_2
        refine wq_b (tt_fX12_right hN r3_q27886.2.1 r3_q27886.2.2.1 r3_q27886.2.2.2 (0 : Int32) (2 : Int32) ⟨by omega, by omega⟩ h_r3_q27886_3) (fun r1_q27903 h_r1_q27903 => ?_)
        obtain ⟨h_r1_q27903_0, h_r1_q27903_1, h_r1_q27903_2, h_r1_q27903_3, -⟩ := h_r1_q27903
        have t_27904 := KX12.i1 h_r1_q27903_3
        refine wq_eq (fun hc_27905 => ?_) (fun hc_27906 => ?_)
        · exact wq_s ⟨(show ((0 : Int32).toInt = 0 ∨ ((0 : Int32).toInt = 1 ∧ 0 ≤ x1.toInt ∧ x1.toInt ≤ 1000000 ∧ 0 ≤ x2.toInt ∧ x2.toInt ≤ 50000 ∧ x1.toInt + x2.toInt ≤ 1000000)) from by omega), (show (r1_q27903.2.1 1).toInt = (I0 1).toInt from by omega), (show 0 ≤ (0 : Int32).toInt ∧ (0 : Int32).toInt ≤ 1 from ⟨by omega, by omega⟩), h_r1_q27903_3, trivial⟩
        · exact wq_s ⟨(show ((1 : Int32).toInt = 0 ∨ ((1 : Int32).toInt = 1 ∧ 0 ≤ x1.toInt ∧ x1.toInt ≤ 1000000 ∧ 0 ≤ x2.toInt ∧ x2.toInt ≤ 50000 ∧ x1.toInt + x2.toInt ≤ 1000000)) from by omega), (show (r1_q27903.2.1 1).toInt = (I0 1).toInt from by omega), (show 0 ≤ (1 : Int32).toInt ∧ (1 : Int32).toInt ≤ 1 from ⟨by omega, by omega⟩), h_r1_q27903_3, trivial⟩
      · have l_2 := il_2
        refine wq_b (tt_fX12_right hN r3_q27886.2.1 r3_q27886.2.2.1 r3_q27886.2.2.2 (1 : Int32) (2 : Int32) ⟨by omega, by omega⟩ h_r3_q27886_3) (fun r5_q27907 h_r5_q27907 => ?_)
        obtain ⟨h_r5_q27907_0, h_r5_q27907_1, h_r5_q27907_2, h_r5_q27907_3, -⟩ := h_r5_q27907
        have t_27908 := KX12.i1 h_r5_q27907_3
        refine wq_eq (fun hc_27909 => ?_) (fun hc_27910 => ?_)
        · exact wq_s ⟨(show ((0 : Int32).toInt = 0 ∨ ((0 : Int32).toInt = 1 ∧ 0 ≤ x1.toInt ∧ x1.toInt ≤ 1000000 ∧ 0 ≤ x2.toInt ∧ x2.toInt ≤ 50000 ∧ x1.toInt + x2.toInt ≤ 1000000)) from by omega), (show (r5_q27907.2.1 1).toInt = (I0 1).toInt from by omega), (show 0 ≤ (0 : Int32).toInt ∧ (0 : Int32).toInt ≤ 1 from ⟨by omega, by omega⟩), h_r5_q27907_3, trivial⟩
        · exact wq_s ⟨(show ((1 : Int32).toInt = 0 ∨ ((1 : Int32).toInt = 1 ∧ 0 ≤ x1.toInt ∧ x1.toInt ≤ 1000000 ∧ 0 ≤ x2.toInt ∧ x2.toInt ≤ 50000 ∧ x1.toInt + x2.toInt ≤ 1000000)) from by omega), (show (r5_q27907.2.1 1).toInt = (I0 1).toInt from by omega), (show 0 ≤ (1 : Int32).toInt ∧ (1 : Int32).toInt ≤ 1 from ⟨by omega, by omega⟩), h_r5_q27907_3, trivial⟩
set_option maxHeartbeats 4000000 in
theorem tt_fX12_best_L45 {N : Nat} (hN : 3000000000 ≤ N) (x1 : Int32) (x2 : Int32) (x3 : Int32) (x4 : Int32) (x5 : Int32) (h_x1 : 0 ≤ x1.toInt ∧ x1.toInt ≤ 5) (h_x2 : 0 ≤ x2.toInt ∧ x2.toInt ≤ 19) (h_x3 : 0 ≤ x3.toInt ∧ x3.toInt ≤ 3) (h_x4 : 0 ≤ x4.toInt ∧ x4.toInt ≤ 1000000) (h_x5 : 0 ≤ x5.toInt ∧ x5.toInt ≤ 50000)  : ∀ (fu : Nat) (I0_l45 : (Nat → Int32)) (L0_l45 : Int64) (M0_l45 : (Nat → Nat → Int32)) (y45_6 : Int32) (y45_7 : Int32), (0 ≤ y45_6.toInt ∧ y45_6.toInt ≤ 999) → (0 ≤ y45_7.toInt ∧ y45_7.toInt ≤ 1050001) → (KX12 I0_l45 M0_l45) → (x4.toInt ≤ y45_7.toInt) → ((y45_6.toInt = 999 ∨ (0 ≤ (I0_l45 15).toInt ∧ (I0_l45 15).toInt ≤ y45_7.toInt - x4.toInt))) → (1050001 - y45_7.toInt) < (fu : Int) → wq (fX12_best_L45 N x1 x2 x3 x4 x5 fu I0_l45 L0_l45 M0_l45 y45_6 y45_7) (fun r => (0 ≤ r.1.toInt ∧ r.1.toInt ≤ 999) ∧ KX12 r.2.1 r.2.2.2 ∧ True) := by
  intro fu
  induction fu with
  | zero => intro I0_l45 L0_l45 M0_l45 y45_6 y45_7 h_y45_6 h_y45_7 k_I0_l45 hl_3 hl_4 hm; exfalso; omega
  | succ fu ih =>
    intro I0_l45 L0_l45 M0_l45 y45_6 y45_7 h_y45_6 h_y45_7 k_I0_l45 hl_3 hl_4 hm
    rw [fX12_best_L45.eq_2]
    have t_28345 := ia_add x4 x5 (by omega) (by omega)
    refine wq_lt (fun hc_28346 => ?_) (fun hc_28347 => ?_)
    · exact wq_s ⟨(show 0 ≤ y45_6.toInt ∧ y45_6.toInt ≤ 999 from ⟨by omega, by omega⟩), k_I0_l45, trivial⟩
    · have l_20 := il_20
      have t_28348 := ia_mul (20 : Int32) (20) il_20 x1 (by omega) (by omega)
      have t_28349 := ia_add ((20 : Int32) * x1) x2 (by omega) (by omega)
      refine wq_b (tt_fX12_costOn hN I0_l45 L0_l45 M0_l45 (((20 : Int32) * x1) + x2) x3 y45_7 y45_6 ⟨by omega, by omega⟩ ⟨by omega, by omega⟩ k_I0_l45) (fun r8_q28350 h_r8_q28350 => ?_)
      obtain ⟨h_r8_q28350_0, -⟩ := h_r8_q28350
      refine wq_le (fun hc_28351 => ?_) (fun hc_28352 => ?_)
      · refine wq_le (fun hc_28353 => ?_) (fun hc_28354 => ?_)
        · unfold fX12_best_J94
          refine wq_le (fun hc_28355 => ?_) (fun hc_28356 => ?_)
          · unfold fX12_best_J118
            refine wq_v (fun I0_5_q28357 h_I0_5_q28357 => ?_)
            have k_I0_5_q28357 : KX12 I0_5_q28357 M0_l45 := by rw [h_I0_5_q28357]; exact KX12.si15 k_I0_l45
            have l_1 := il_1
            have t_28359 := ia_add y45_7 (1 : Int32) (by omega) (by omega)
            refine wq_v (fun v6_q28358 h_v6_q28358 => ?_)
            have t_v6_q28358 := congrArg Int32.toInt h_v6_q28358
            have t_28360 := ia_add (I0_l45 15) (1 : Int32) (by omega) (by omega)
            have t_28361 : (I0_5_q28357 15).toInt = ((I0_l45 15) + (1 : Int32)).toInt := by rw [h_I0_5_q28357]; rfl
            exact ih I0_5_q28357 L0_l45 M0_l45 r8_q28350 v6_q28358 ⟨by omega, by omega⟩ ⟨by omega, by omega⟩ k_I0_5_q28357 (by omega) (by omega) (by omega)
          · refine wq_in (n := 20) ⟨by omega, by omega⟩ ?_
            refine wq_v (fun M0_7_q28362 h_M0_7_q28362 => ?_)
            have k_M0_7_q28362 : KX12 I0_l45 M0_7_q28362 := by rw [h_M0_7_q28362]; exact KX12.sm17 k_I0_l45
            unfold fX12_best_J118
            refine wq_v (fun I0_5_q28363 h_I0_5_q28363 => ?_)
            have k_I0_5_q28363 : KX12 I0_5_q28363 M0_7_q28362 := by rw [h_I0_5_q28363]; exact KX12.si15 k_M0_7_q28362
            have l_1 := il_1
            have t_28365 := ia_add y45_7 (1 : Int32) (by omega) (by omega)
            refine wq_v (fun v6_q28364 h_v6_q28364 => ?_)
            have t_v6_q28364 := congrArg Int32.toInt h_v6_q28364
            have t_28366 := ia_add (I0_l45 15) (1 : Int32) (by omega) (by omega)
            have t_28367 : (I0_5_q28363 15).toInt = ((I0_l45 15) + (1 : Int32)).toInt := by rw [h_I0_5_q28363]; rfl
            exact ih I0_5_q28363 L0_l45 M0_7_q28362 r8_q28350 v6_q28364 ⟨by omega, by omega⟩ ⟨by omega, by omega⟩ k_I0_5_q28363 (by omega) (by omega) (by omega)
        · refine wq_v (fun I0_9_q28368 h_I0_9_q28368 => ?_)
          have k_I0_9_q28368 : KX12 I0_9_q28368 M0_l45 := by rw [h_I0_9_q28368]; exact KX12.si15 k_I0_l45
          unfold fX12_best_J94
          have l_0 := il_0
          have t_28369 : (I0_9_q28368 15).toInt = (0 : Int32).toInt := by rw [h_I0_9_q28368]; rfl
          refine wq_le (fun hc_28370 => ?_) (fun hc_28371 => ?_)
          · exfalso; omega
          · refine wq_in (n := 20) ⟨by omega, by omega⟩ ?_
            refine wq_v (fun M0_7_q28372 h_M0_7_q28372 => ?_)
            have k_M0_7_q28372 : KX12 I0_9_q28368 M0_7_q28372 := by rw [h_M0_7_q28372]; exact KX12.sm17 k_I0_9_q28368
            unfold fX12_best_J118
            refine wq_v (fun I0_5_q28373 h_I0_5_q28373 => ?_)
            have k_I0_5_q28373 : KX12 I0_5_q28373 M0_7_q28372 := by rw [h_I0_5_q28373]; exact KX12.si15 k_M0_7_q28372
            have l_1 := il_1
            have t_28375 := ia_add y45_7 (1 : Int32) (by omega) (by omega)
            refine wq_v (fun v6_q28374 h_v6_q28374 => ?_)
            have t_v6_q28374 := congrArg Int32.toInt h_v6_q28374
            have t_28376 := ia_add (I0_9_q28368 15) (1 : Int32) (by omega) (by omega)
            have t_28377 : (I0_5_q28373 15).toInt = ((I0_9_q28368 15) + (1 : Int32)).toInt := by rw [h_I0_5_q28373]; rfl
            exact ih I0_5_q28373 L0_l45 M0_7_q28372 r8_q28350 v6_q28374 ⟨by omega, by omega⟩ ⟨by omega, by omega⟩ k_I0_5_q28373 (by omega) (by omega) (by omega)
      · have l_1 := il_1
        have t_28379 := ia_add y45_7 (1 : Int32) (by omega) (by omega)
        refine wq_v (fun v10_q28378 h_v10_q28378 => ?_)
        have t_v10_q28378 := congrArg Int32.toInt h_v10_q28378
        exact ih I0_l45 L0_l45 M0_l45 y45_6 v10_q28378 ⟨by omega, by omega⟩ ⟨by omega, by omega⟩ k_I0_l45 (by omega) (by omega) (by omega)
set_option maxHeartbeats 4000000 in
theorem tt_fX12_best {N : Nat} (hN : 3000000000 ≤ N) (I0 : Nat → Int32) (L0 : Int64) (M0 : Nat → Nat → Int32) (x1 : Int32) (x2 : Int32) (x3 : Int32) (x4 : Int32) (x5 : Int32) (k_I0 : KX12 I0 M0) : wq (fX12_best N I0 L0 M0 x1 x2 x3 x4 x5) (fun r => (0 ≤ r.1.toInt ∧ r.1.toInt ≤ 999) ∧ KX12 r.2.1 r.2.2.2 ∧ True) := by
  unfold fX12_best
  have b_28380 := i32b x1
  have b_28381 := i32b x2
  refine wq_b (tt_fX12_isWheel hN I0 L0 M0 x1 x2 k_I0) (fun r1_q28382 h_r1_q28382 => ?_)
  obtain ⟨h_r1_q28382_0, h_r1_q28382_1, h_r1_q28382_2, h_r1_q28382_3, -⟩ := h_r1_q28382
  have t_28383 := KX12.i1 h_r1_q28382_3
  have t_28384 := KX12.i1 k_I0
  have l_0 := il_0
  refine wq_eq (fun hc_28385 => ?_) (fun hc_28386 => ?_)
  · exact wq_s ⟨(show 0 ≤ (0 : Int32).toInt ∧ (0 : Int32).toInt ≤ 999 from ⟨by omega, by omega⟩), h_r1_q28382_3, trivial⟩
  · have b_28387 := i32b x3
    have l_3 := il_3
    refine wq_b (tt_fX12_within hN x3 (0 : Int32) (3 : Int32)) (fun r2_q28388 h_r2_q28388 => ?_)
    obtain ⟨h_r2_q28388_0, h_r2_q28388_1, -⟩ := h_r2_q28388
    have l_1 := il_1
    refine wq_b (tt_fX12_right hN r1_q28382.2.1 r1_q28382.2.2.1 r1_q28382.2.2.2 r2_q28388 (1 : Int32) ⟨by omega, by omega⟩ h_r1_q28382_3) (fun r3_q28389 h_r3_q28389 => ?_)
    obtain ⟨h_r3_q28389_0, h_r3_q28389_1, h_r3_q28389_2, h_r3_q28389_3, -⟩ := h_r3_q28389
    have t_28390 := KX12.i1 h_r3_q28389_3
    refine wq_eq (fun hc_28391 => ?_) (fun hc_28392 => ?_)
    · exact wq_s ⟨(show 0 ≤ (0 : Int32).toInt ∧ (0 : Int32).toInt ≤ 999 from ⟨by omega, by omega⟩), h_r3_q28389_3, trivial⟩
    · have b_28393 := i32b x4
      have b_28394 := i32b x5
      refine wq_b (tt_fX12_isSpan hN r3_q28389.2.1 r3_q28389.2.2.1 r3_q28389.2.2.2 x4 x5 h_r3_q28389_3) (fun r4_q28395 h_r4_q28395 => ?_)
      obtain ⟨h_r4_q28395_0, h_r4_q28395_1, h_r4_q28395_2, h_r4_q28395_3, -⟩ := h_r4_q28395
      have t_28396 := KX12.i1 h_r4_q28395_3
      refine wq_eq (fun hc_28397 => ?_) (fun hc_28398 => ?_)
      · exact wq_s ⟨(show 0 ≤ (0 : Int32).toInt ∧ (0 : Int32).toInt ≤ 999 from ⟨by omega, by omega⟩), h_r4_q28395_3, trivial⟩
      · have l_999 := il_999
        exact tt_fX12_best_L45 hN x1 x2 x3 x4 x5 ⟨by omega, by omega⟩ ⟨by omega, by omega⟩ ⟨by omega, by omega⟩ ⟨by omega, by omega⟩ ⟨by omega, by omega⟩ N r4_q28395.2.1 r4_q28395.2.2.1 r4_q28395.2.2.2 (999 : Int32) x4 ⟨by omega, by omega⟩ ⟨by omega, by omega⟩ h_r4_q28395_3 (by omega) (by omega) (by omega)

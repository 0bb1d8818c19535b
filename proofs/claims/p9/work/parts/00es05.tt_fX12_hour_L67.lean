set_option maxHeartbeats 4000000 in
theorem tt_fX12_hour_L67 {N : Nat} (hN : 3000000000 ≤ N) (x1 : Int32) (x2 : Int32) (x3 : Int32) (y61_4 : Int32) (y61_5 : Int32) (h_x1 : 0 ≤ x1.toInt ∧ x1.toInt ≤ 5) (h_x2 : 0 ≤ x2.toInt ∧ x2.toInt ≤ 19) (h_y61_4 : 0 ≤ y61_4.toInt ∧ y61_4.toInt ≤ 119) (h_y61_5 : 0 ≤ y61_5.toInt ∧ y61_5.toInt ≤ 1)  : ∀ (fu : Nat) (I0_l67 : (Nat → Int32)) (L0_l67 : Int64) (M0_l67 : (Nat → Nat → Int32)) (y67_6 : Int32) (y67_7 : Int32), (0 ≤ y67_7.toInt ∧ y67_7.toInt ≤ 2520) → (KX12 I0_l67 M0_l67) → (2520 - y67_7.toInt) < (fu : Int) → wq (fX12_hour_L67 N x1 x2 x3 y61_4 y61_5 fu I0_l67 L0_l67 M0_l67 y67_6 y67_7) (fun r => KX12 r.2.1 r.2.2.2 ∧ True) := by
  intro fu
  induction fu with
  | zero => intro I0_l67 L0_l67 M0_l67 y67_6 y67_7 h_y67_7 k_I0_l67 hm; exfalso; omega
  | succ fu ih =>
    intro I0_l67 L0_l67 M0_l67 y67_6 y67_7 h_y67_7 k_I0_l67 hm
    rw [fX12_hour_L67.eq_2]
    have t_45659 := KX12.i1 k_I0_l67
    have l_360 := il_360
    have t_45660 := ia_mul (360 : Int32) (360) il_360 (I0_l67 1) (by omega) (by omega)
    refine wq_le (fun hc_45661 => ?_) (fun hc_45662 => ?_)
    · unfold fX12_hour_J127
      have b_45663 := i32b x3
      have l_m1 := il_m1
      refine wq_eq (fun hc_45664 => ?_) (fun hc_45665 => ?_)
      · have l_1 := il_1
        refine wq_b (tt_fX12_right hN I0_l67 L0_l67 M0_l67 (1 : Int32) (1 : Int32) ⟨by omega, by omega⟩ k_I0_l67) (fun r2_q45666 h_r2_q45666 => ?_)
        obtain ⟨h_r2_q45666_0, h_r2_q45666_1, h_r2_q45666_2, h_r2_q45666_3, -⟩ := h_r2_q45666
        have t_45667 := KX12.i1 h_r2_q45666_3
        have l_0 := il_0
        refine wq_eq (fun hc_45668 => ?_) (fun hc_45669 => ?_)
        · exact wq_s ⟨h_r2_q45666_3, trivial⟩
        · have b_45670 := i32b y67_6
          exact wq_s ⟨h_r2_q45666_3, trivial⟩
      · have l_0 := il_0
        have l_1 := il_1
        refine wq_b (tt_fX12_right hN I0_l67 L0_l67 M0_l67 (0 : Int32) (1 : Int32) ⟨by omega, by omega⟩ k_I0_l67) (fun r1_q45671 h_r1_q45671 => ?_)
        obtain ⟨h_r1_q45671_0, h_r1_q45671_1, h_r1_q45671_2, h_r1_q45671_3, -⟩ := h_r1_q45671
        have t_45672 := KX12.i1 h_r1_q45671_3
        refine wq_eq (fun hc_45673 => ?_) (fun hc_45674 => ?_)
        · exact wq_s ⟨h_r1_q45671_3, trivial⟩
        · have b_45675 := i32b y67_6
          exact wq_s ⟨h_r1_q45671_3, trivial⟩
    · have l_0 := il_0
      refine wq_eq (fun hc_45676 => ?_) (fun hc_45677 => ?_)
      · unfold fX12_hour_J127
        have b_45678 := i32b x3
        have l_m1 := il_m1
        refine wq_eq (fun hc_45679 => ?_) (fun hc_45680 => ?_)
        · have l_1 := il_1
          refine wq_b (tt_fX12_right hN I0_l67 L0_l67 M0_l67 (1 : Int32) (1 : Int32) ⟨by omega, by omega⟩ k_I0_l67) (fun r2_q45681 h_r2_q45681 => ?_)
          obtain ⟨h_r2_q45681_0, h_r2_q45681_1, h_r2_q45681_2, h_r2_q45681_3, -⟩ := h_r2_q45681
          have t_45682 := KX12.i1 h_r2_q45681_3
          refine wq_eq (fun hc_45683 => ?_) (fun hc_45684 => ?_)
          · exact wq_s ⟨h_r2_q45681_3, trivial⟩
          · have b_45685 := i32b y67_6
            exact wq_s ⟨h_r2_q45681_3, trivial⟩
        · have l_1 := il_1
          refine wq_b (tt_fX12_right hN I0_l67 L0_l67 M0_l67 (0 : Int32) (1 : Int32) ⟨by omega, by omega⟩ k_I0_l67) (fun r1_q45686 h_r1_q45686 => ?_)
          obtain ⟨h_r1_q45686_0, h_r1_q45686_1, h_r1_q45686_2, h_r1_q45686_3, -⟩ := h_r1_q45686
          have t_45687 := KX12.i1 h_r1_q45686_3
          refine wq_eq (fun hc_45688 => ?_) (fun hc_45689 => ?_)
          · exact wq_s ⟨h_r1_q45686_3, trivial⟩
          · have b_45690 := i32b y67_6
            exact wq_s ⟨h_r1_q45686_3, trivial⟩
      · have t_45691 := ia_div y67_7 (360 : Int32) 360 il_360 (by decide) (by omega)
        have t_45692 := ia_rem y67_7 (360 : Int32) 360 il_360 (by decide) (by omega)
        refine wq_b (tt_fX12_isHour hN I0_l67 L0_l67 M0_l67 y61_4 (y67_7 / (360 : Int32)) (y67_7 - ((y67_7 / (360 : Int32)) * (360 : Int32))) ⟨by omega, by omega⟩ ⟨by omega, by omega⟩ ⟨by omega, by omega⟩ k_I0_l67 (by omega)) (fun r3_q45693 h_r3_q45693 => ?_)
        obtain ⟨h_r3_q45693_0, -⟩ := h_r3_q45693
        refine wq_eq (fun hc_45694 => ?_) (fun hc_45695 => ?_)
        · have l_1 := il_1
          have t_45697 := ia_add y67_7 (1 : Int32) (by omega) (by omega)
          refine wq_v (fun v6_q45696 h_v6_q45696 => ?_)
          have t_v6_q45696 := congrArg Int32.toInt h_v6_q45696
          have b_45698 := i32b y67_6
          exact ih I0_l67 L0_l67 M0_l67 y67_6 v6_q45696 ⟨by omega, by omega⟩ k_I0_l67 (by omega)
        · have b_45699 := i32b y67_6
          have b_45700 := i32b x3
          refine wq_eq (fun hc_45701 => ?_) (fun hc_45702 => ?_)
          · exact wq_s ⟨k_I0_l67, trivial⟩
          · have l_1 := il_1
            refine wq_v (fun v4_q45703 h_v4_q45703 => ?_)
            have t_v4_q45703 := congrArg Int32.toInt h_v4_q45703
            have t_45705 := ia_add y67_7 (1 : Int32) (by omega) (by omega)
            refine wq_v (fun v5_q45704 h_v5_q45704 => ?_)
            have t_v5_q45704 := congrArg Int32.toInt h_v5_q45704
            have b_45706 := i32b v4_q45703
            exact ih I0_l67 L0_l67 M0_l67 v4_q45703 v5_q45704 ⟨by omega, by omega⟩ k_I0_l67 (by omega)

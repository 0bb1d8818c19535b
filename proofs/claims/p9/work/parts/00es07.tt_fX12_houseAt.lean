set_option maxHeartbeats 4000000 in
theorem tt_fX12_houseAt {N : Nat} (hN : 3000000000 ≤ N) (I0 : Nat → Int32) (L0 : Int64) (M0 : Nat → Nat → Int32) (x1 : Int32) (x2 : Int32) (x3 : Int32) (x4 : Int32) (h_x1 : -1 ≤ x1.toInt ∧ x1.toInt ≤ 359) (h_x4 : 1 ≤ x4.toInt ∧ x4.toInt ≤ 12) (k_I0 : KX12 I0 M0) (hr_3 : ((0 ≤ x2.toInt ∧ x2.toInt ≤ 1) ∨ (0 ≤ x3.toInt ∧ x3.toInt < (I0 1).toInt))) : wq (fX12_houseAt N I0 L0 M0 x1 x2 x3 x4) (fun r => (-359 ≤ r.toInt ∧ r.toInt ≤ 359) ∧ True) := by
  unfold fX12_houseAt
  have b_46642 := i32b x2
  have l_0 := il_0
  refine wq_eq (fun hc_46643 => ?_) (fun hc_46644 => ?_)
  · have l_30 := il_30
    have t_46645 := ia_div2 x1 (30 : Int32) 30 il_30 (by decide)
    have t_46646 := ia_add (x1 / (30 : Int32)) x4 (by omega) (by omega)
    have l_1 := il_1
    have t_46647 := ia_sub ((x1 / (30 : Int32)) + x4) (1 : Int32) (by omega) (by omega)
    have l_12 := il_12
    have t_46648 := ia_rem (((x1 / (30 : Int32)) + x4) - (1 : Int32)) (12 : Int32) 12 il_12 (by decide) (by omega)
    have t_46649 := ia_mul (30 : Int32) (30) il_30 ((((x1 / (30 : Int32)) + x4) - (1 : Int32)) - (((((x1 / (30 : Int32)) + x4) - (1 : Int32)) / (12 : Int32)) * (12 : Int32))) (by omega) (by omega)
    exact wq_s ⟨(show -359 ≤ ((30 : Int32) * ((((x1 / (30 : Int32)) + x4) - (1 : Int32)) - (((((x1 / (30 : Int32)) + x4) - (1 : Int32)) / (12 : Int32)) * (12 : Int32)))).toInt ∧ ((30 : Int32) * ((((x1 / (30 : Int32)) + x4) - (1 : Int32)) - (((((x1 / (30 : Int32)) + x4) - (1 : Int32)) / (12 : Int32)) * (12 : Int32)))).toInt ≤ 359 from ⟨by omega, by omega⟩), trivial⟩
  · have l_1 := il_1
    refine wq_eq (fun hc_46650 => ?_) (fun hc_46651 => ?_)
    · have t_46652 := ia_sub x4 (1 : Int32) (by omega) (by omega)
      have l_30 := il_30
      have t_46653 := ia_mul (30 : Int32) (30) il_30 (x4 - (1 : Int32)) (by omega) (by omega)
      have t_46654 := ia_add x1 ((30 : Int32) * (x4 - (1 : Int32))) (by omega) (by omega)
      have l_360 := il_360
      have t_46655 := ia_rem2 (x1 + ((30 : Int32) * (x4 - (1 : Int32)))) (360 : Int32) 360 il_360 (by decide)
      exact wq_s ⟨(show -359 ≤ ((x1 + ((30 : Int32) * (x4 - (1 : Int32)))) - (((x1 + ((30 : Int32) * (x4 - (1 : Int32)))) / (360 : Int32)) * (360 : Int32))).toInt ∧ ((x1 + ((30 : Int32) * (x4 - (1 : Int32)))) - (((x1 + ((30 : Int32) * (x4 - (1 : Int32)))) / (360 : Int32)) * (360 : Int32))).toInt ≤ 359 from ⟨by omega, by omega⟩), trivial⟩
    · have b_46656 := i32b x3
      have l_60 := il_60
      have t_46657 := ia_mul (60 : Int32) (60) il_60 x1 (by omega) (by omega)
      have t_46658 := KX12.i1 k_I0
      refine wq_b (tt_fX12_middleOf hN I0 L0 M0 x3 ((60 : Int32) * x1) ⟨by omega, by omega⟩ ⟨by omega, by omega⟩ k_I0 (by omega)) (fun r1_q46659 h_r1_q46659 => ?_)
      obtain ⟨-⟩ := h_r1_q46659
      have b_46661 := i32b r1_q46659
      have t_46662 := i32b r1_q46659
      have t_46663 := ia_div2 r1_q46659 (60 : Int32) 60 il_60 (by decide)
      refine wq_v (fun v2_q46660 h_v2_q46660 => ?_)
      have t_v2_q46660 := congrArg Int32.toInt h_v2_q46660
      have t_46665 := ia_sub x1 v2_q46660 (by omega) (by omega)
      have l_360 := il_360
      have t_46666 := ia_add (x1 - v2_q46660) (360 : Int32) (by omega) (by omega)
      have t_46667 := ia_rem2 ((x1 - v2_q46660) + (360 : Int32)) (360 : Int32) 360 il_360 (by decide)
      refine wq_v (fun v3_q46664 h_v3_q46664 => ?_)
      have t_v3_q46664 := congrArg Int32.toInt h_v3_q46664
      have l_180 := il_180
      have t_46669 := ia_add v2_q46660 (180 : Int32) (by omega) (by omega)
      have t_46670 := ia_sub (v2_q46660 + (180 : Int32)) x1 (by omega) (by omega)
      have t_46671 := ia_add ((v2_q46660 + (180 : Int32)) - x1) (360 : Int32) (by omega) (by omega)
      have t_46672 := ia_rem2 (((v2_q46660 + (180 : Int32)) - x1) + (360 : Int32)) (360 : Int32) 360 il_360 (by decide)
      refine wq_v (fun v4_q46668 h_v4_q46668 => ?_)
      have t_v4_q46668 := congrArg Int32.toInt h_v4_q46668
      have l_3 := il_3
      refine wq_le (fun hc_46673 => ?_) (fun hc_46674 => ?_)
      · unfold fX12_houseAt_J110
        unfold fX12_houseAt_J112
        refine wq_eq (fun hc_46675 => ?_) (fun hc_46676 => ?_)
        · unfold fX12_houseAt_J195
          refine wq_eq (fun hc_46677 => ?_) (fun hc_46678 => ?_)
          · have t_46679 := ia_rem2 x1 (360 : Int32) 360 il_360 (by decide)
            exact wq_s ⟨(show -359 ≤ (x1 - ((x1 / (360 : Int32)) * (360 : Int32))).toInt ∧ (x1 - ((x1 / (360 : Int32)) * (360 : Int32))).toInt ≤ 359 from ⟨by omega, by omega⟩), trivial⟩
          · have t_46680 := ia_add x1 (180 : Int32) (by omega) (by omega)
            have t_46681 := ia_rem (x1 + (180 : Int32)) (360 : Int32) 360 il_360 (by decide) (by omega)
            exact wq_s ⟨(show -359 ≤ ((x1 + (180 : Int32)) - (((x1 + (180 : Int32)) / (360 : Int32)) * (360 : Int32))).toInt ∧ ((x1 + (180 : Int32)) - (((x1 + (180 : Int32)) / (360 : Int32)) * (360 : Int32))).toInt ≤ 359 from ⟨by omega, by omega⟩), trivial⟩
        · have l_10 := il_10
          refine wq_eq (fun hc_46682 => ?_) (fun hc_46683 => ?_)
          · exfalso; omega
          · have l_11 := il_11
            refine wq_eq (fun hc_46684 => ?_) (fun hc_46685 => ?_)
            · exfalso; omega
            · have l_12 := il_12
              refine wq_eq (fun hc_46686 => ?_) (fun hc_46687 => ?_)
              · exfalso; omega
              · have l_2 := il_2
                refine wq_eq (fun hc_46688 => ?_) (fun hc_46689 => ?_)
                · unfold fX12_houseAt_J195
                  refine wq_eq (fun hc_46690 => ?_) (fun hc_46691 => ?_)
                  · have t_46692 := ia_div2 v4_q46668 (3 : Int32) 3 il_3 (by decide)
                    have t_46693 := ia_add x1 (v4_q46668 / (3 : Int32)) (by omega) (by omega)
                    have t_46694 := ia_rem2 (x1 + (v4_q46668 / (3 : Int32))) (360 : Int32) 360 il_360 (by decide)
                    exact wq_s ⟨(show -359 ≤ ((x1 + (v4_q46668 / (3 : Int32))) - (((x1 + (v4_q46668 / (3 : Int32))) / (360 : Int32)) * (360 : Int32))).toInt ∧ ((x1 + (v4_q46668 / (3 : Int32))) - (((x1 + (v4_q46668 / (3 : Int32))) / (360 : Int32)) * (360 : Int32))).toInt ≤ 359 from ⟨by omega, by omega⟩), trivial⟩
                  · have t_46695 := ia_div2 v4_q46668 (3 : Int32) 3 il_3 (by decide)
                    have t_46696 := ia_add x1 (v4_q46668 / (3 : Int32)) (by omega) (by omega)
                    have t_46697 := ia_add (x1 + (v4_q46668 / (3 : Int32))) (180 : Int32) (by omega) (by omega)
                    have t_46698 := ia_rem ((x1 + (v4_q46668 / (3 : Int32))) + (180 : Int32)) (360 : Int32) 360 il_360 (by decide) (by omega)
                    exact wq_s ⟨(show -359 ≤ (((x1 + (v4_q46668 / (3 : Int32))) + (180 : Int32)) - ((((x1 + (v4_q46668 / (3 : Int32))) + (180 : Int32)) / (360 : Int32)) * (360 : Int32))).toInt ∧ (((x1 + (v4_q46668 / (3 : Int32))) + (180 : Int32)) - ((((x1 + (v4_q46668 / (3 : Int32))) + (180 : Int32)) / (360 : Int32)) * (360 : Int32))).toInt ≤ 359 from ⟨by omega, by omega⟩), trivial⟩
                · unfold fX12_houseAt_J195
                  refine wq_eq (fun hc_46699 => ?_) (fun hc_46700 => ?_)
                  · have t_46701 := ia_mul (2 : Int32) (2) il_2 v4_q46668 (by omega) (by omega)
                    have t_46702 := ia_div2 ((2 : Int32) * v4_q46668) (3 : Int32) 3 il_3 (by decide)
                    have t_46703 := ia_add x1 (((2 : Int32) * v4_q46668) / (3 : Int32)) (by omega) (by omega)
                    have t_46704 := ia_rem2 (x1 + (((2 : Int32) * v4_q46668) / (3 : Int32))) (360 : Int32) 360 il_360 (by decide)
                    exact wq_s ⟨(show -359 ≤ ((x1 + (((2 : Int32) * v4_q46668) / (3 : Int32))) - (((x1 + (((2 : Int32) * v4_q46668) / (3 : Int32))) / (360 : Int32)) * (360 : Int32))).toInt ∧ ((x1 + (((2 : Int32) * v4_q46668) / (3 : Int32))) - (((x1 + (((2 : Int32) * v4_q46668) / (3 : Int32))) / (360 : Int32)) * (360 : Int32))).toInt ≤ 359 from ⟨by omega, by omega⟩), trivial⟩
                  · have t_46705 := ia_mul (2 : Int32) (2) il_2 v4_q46668 (by omega) (by omega)
                    have t_46706 := ia_div2 ((2 : Int32) * v4_q46668) (3 : Int32) 3 il_3 (by decide)
                    have t_46707 := ia_add x1 (((2 : Int32) * v4_q46668) / (3 : Int32)) (by omega) (by omega)
                    have t_46708 := ia_add (x1 + (((2 : Int32) * v4_q46668) / (3 : Int32))) (180 : Int32) (by omega) (by omega)
                    have t_46709 := ia_rem2 ((x1 + (((2 : Int32) * v4_q46668) / (3 : Int32))) + (180 : Int32)) (360 : Int32) 360 il_360 (by decide)
                    exact wq_s ⟨(show -359 ≤ (((x1 + (((2 : Int32) * v4_q46668) / (3 : Int32))) + (180 : Int32)) - ((((x1 + (((2 : Int32) * v4_q46668) / (3 : Int32))) + (180 : Int32)) / (360 : Int32)) * (360 : Int32))).toInt ∧ (((x1 + (((2 : Int32) * v4_q46668) / (3 : Int32))) + (180 : Int32)) - ((((x1 + (((2 : Int32) * v4_q46668) / (3 : Int32))) + (180 : Int32)) / (360 : Int32)) * (360 : Int32))).toInt ≤ 359 from ⟨by omega, by omega⟩), trivial⟩
      · have l_10 := il_10
        refine wq_le (fun hc_46710 => ?_) (fun hc_46711 => ?_)
        · unfold fX12_houseAt_J110
          unfold fX12_houseAt_J112
          refine wq_eq (fun hc_46712 => ?_) (fun hc_46713 => ?_)
          · exfalso; omega
          · refine wq_eq (fun hc_46714 => ?_) (fun hc_46715 => ?_)
            · unfold fX12_houseAt_J195
              refine wq_eq (fun hc_46716 => ?_) (fun hc_46717 => ?_)
              · have t_46718 := ia_rem2 v2_q46660 (360 : Int32) 360 il_360 (by decide)
                exact wq_s ⟨(show -359 ≤ (v2_q46660 - ((v2_q46660 / (360 : Int32)) * (360 : Int32))).toInt ∧ (v2_q46660 - ((v2_q46660 / (360 : Int32)) * (360 : Int32))).toInt ≤ 359 from ⟨by omega, by omega⟩), trivial⟩
              · have t_46719 := ia_rem2 (v2_q46660 + (180 : Int32)) (360 : Int32) 360 il_360 (by decide)
                exact wq_s ⟨(show -359 ≤ ((v2_q46660 + (180 : Int32)) - (((v2_q46660 + (180 : Int32)) / (360 : Int32)) * (360 : Int32))).toInt ∧ ((v2_q46660 + (180 : Int32)) - (((v2_q46660 + (180 : Int32)) / (360 : Int32)) * (360 : Int32))).toInt ≤ 359 from ⟨by omega, by omega⟩), trivial⟩
            · have l_11 := il_11
              refine wq_eq (fun hc_46720 => ?_) (fun hc_46721 => ?_)
              · unfold fX12_houseAt_J195
                refine wq_eq (fun hc_46722 => ?_) (fun hc_46723 => ?_)
                · have t_46724 := ia_div2 v3_q46664 (3 : Int32) 3 il_3 (by decide)
                  have t_46725 := ia_add v2_q46660 (v3_q46664 / (3 : Int32)) (by omega) (by omega)
                  have t_46726 := ia_rem2 (v2_q46660 + (v3_q46664 / (3 : Int32))) (360 : Int32) 360 il_360 (by decide)
                  exact wq_s ⟨(show -359 ≤ ((v2_q46660 + (v3_q46664 / (3 : Int32))) - (((v2_q46660 + (v3_q46664 / (3 : Int32))) / (360 : Int32)) * (360 : Int32))).toInt ∧ ((v2_q46660 + (v3_q46664 / (3 : Int32))) - (((v2_q46660 + (v3_q46664 / (3 : Int32))) / (360 : Int32)) * (360 : Int32))).toInt ≤ 359 from ⟨by omega, by omega⟩), trivial⟩
                · have t_46727 := ia_div2 v3_q46664 (3 : Int32) 3 il_3 (by decide)
                  have t_46728 := ia_add v2_q46660 (v3_q46664 / (3 : Int32)) (by omega) (by omega)
                  have t_46729 := ia_add (v2_q46660 + (v3_q46664 / (3 : Int32))) (180 : Int32) (by omega) (by omega)
                  have t_46730 := ia_rem2 ((v2_q46660 + (v3_q46664 / (3 : Int32))) + (180 : Int32)) (360 : Int32) 360 il_360 (by decide)
                  exact wq_s ⟨(show -359 ≤ (((v2_q46660 + (v3_q46664 / (3 : Int32))) + (180 : Int32)) - ((((v2_q46660 + (v3_q46664 / (3 : Int32))) + (180 : Int32)) / (360 : Int32)) * (360 : Int32))).toInt ∧ (((v2_q46660 + (v3_q46664 / (3 : Int32))) + (180 : Int32)) - ((((v2_q46660 + (v3_q46664 / (3 : Int32))) + (180 : Int32)) / (360 : Int32)) * (360 : Int32))).toInt ≤ 359 from ⟨by omega, by omega⟩), trivial⟩
              · have l_12 := il_12
                refine wq_eq (fun hc_46731 => ?_) (fun hc_46732 => ?_)
                · unfold fX12_houseAt_J195
                  refine wq_eq (fun hc_46733 => ?_) (fun hc_46734 => ?_)
                  · have l_2 := il_2
                    have t_46735 := ia_mul (2 : Int32) (2) il_2 v3_q46664 (by omega) (by omega)
                    have t_46736 := ia_div2 ((2 : Int32) * v3_q46664) (3 : Int32) 3 il_3 (by decide)
                    have t_46737 := ia_add v2_q46660 (((2 : Int32) * v3_q46664) / (3 : Int32)) (by omega) (by omega)
                    have t_46738 := ia_rem2 (v2_q46660 + (((2 : Int32) * v3_q46664) / (3 : Int32))) (360 : Int32) 360 il_360 (by decide)
                    exact wq_s ⟨(show -359 ≤ ((v2_q46660 + (((2 : Int32) * v3_q46664) / (3 : Int32))) - (((v2_q46660 + (((2 : Int32) * v3_q46664) / (3 : Int32))) / (360 : Int32)) * (360 : Int32))).toInt ∧ ((v2_q46660 + (((2 : Int32) * v3_q46664) / (3 : Int32))) - (((v2_q46660 + (((2 : Int32) * v3_q46664) / (3 : Int32))) / (360 : Int32)) * (360 : Int32))).toInt ≤ 359 from ⟨by omega, by omega⟩), trivial⟩
                  · have l_2 := il_2
                    have t_46739 := ia_mul (2 : Int32) (2) il_2 v3_q46664 (by omega) (by omega)
                    have t_46740 := ia_div2 ((2 : Int32) * v3_q46664) (3 : Int32) 3 il_3 (by decide)
                    have t_46741 := ia_add v2_q46660 (((2 : Int32) * v3_q46664) / (3 : Int32)) (by omega) (by omega)
                    have t_46742 := ia_add (v2_q46660 + (((2 : Int32) * v3_q46664) / (3 : Int32))) (180 : Int32) (by omega) (by omega)
                    have t_46743 := ia_rem2 ((v2_q46660 + (((2 : Int32) * v3_q46664) / (3 : Int32))) + (180 : Int32)) (360 : Int32) 360 il_360 (by decide)
                    exact wq_s ⟨(show -359 ≤ (((v2_q46660 + (((2 : Int32) * v3_q46664) / (3 : Int32))) + (180 : Int32)) - ((((v2_q46660 + (((2 : Int32) * v3_q46664) / (3 : Int32))) + (180 : Int32)) / (360 : Int32)) * (360 : Int32))).toInt ∧ (((v2_q46660 + (((2 : Int32) * v3_q46664) / (3 : Int32))) + (180 : Int32)) - ((((v2_q46660 + (((2 : Int32) * v3_q46664) / (3 : Int32))) + (180 : Int32)) / (360 : Int32)) * (360 : Int32))).toInt ≤ 359 from ⟨by omega, by omega⟩), trivial⟩
                · exfalso; omega
        · unfold fX12_houseAt_J112
          have l_5 := il_5
          have t_46744 := ia_add x4 (5 : Int32) (by omega) (by omega)
          have l_12 := il_12
          have t_46745 := ia_rem (x4 + (5 : Int32)) (12 : Int32) 12 il_12 (by decide) (by omega)
          have t_46746 := ia_add ((x4 + (5 : Int32)) - (((x4 + (5 : Int32)) / (12 : Int32)) * (12 : Int32))) (1 : Int32) (by omega) (by omega)
          refine wq_eq (fun hc_46747 => ?_) (fun hc_46748 => ?_)
          · unfold fX12_houseAt_J195
            refine wq_eq (fun hc_46749 => ?_) (fun hc_46750 => ?_)
            · exfalso; omega
            · have t_46751 := ia_add x1 (180 : Int32) (by omega) (by omega)
              have t_46752 := ia_rem (x1 + (180 : Int32)) (360 : Int32) 360 il_360 (by decide) (by omega)
              exact wq_s ⟨(show -359 ≤ ((x1 + (180 : Int32)) - (((x1 + (180 : Int32)) / (360 : Int32)) * (360 : Int32))).toInt ∧ ((x1 + (180 : Int32)) - (((x1 + (180 : Int32)) / (360 : Int32)) * (360 : Int32))).toInt ≤ 359 from ⟨by omega, by omega⟩), trivial⟩
          · refine wq_eq (fun hc_46753 => ?_) (fun hc_46754 => ?_)
            · unfold fX12_houseAt_J195
              refine wq_eq (fun hc_46755 => ?_) (fun hc_46756 => ?_)
              · exfalso; omega
              · have t_46757 := ia_rem2 (v2_q46660 + (180 : Int32)) (360 : Int32) 360 il_360 (by decide)
                exact wq_s ⟨(show -359 ≤ ((v2_q46660 + (180 : Int32)) - (((v2_q46660 + (180 : Int32)) / (360 : Int32)) * (360 : Int32))).toInt ∧ ((v2_q46660 + (180 : Int32)) - (((v2_q46660 + (180 : Int32)) / (360 : Int32)) * (360 : Int32))).toInt ≤ 359 from ⟨by omega, by omega⟩), trivial⟩
            · have l_11 := il_11
              refine wq_eq (fun hc_46758 => ?_) (fun hc_46759 => ?_)
              · unfold fX12_houseAt_J195
                refine wq_eq (fun hc_46760 => ?_) (fun hc_46761 => ?_)
                · exfalso; omega
                · have t_46762 := ia_div2 v3_q46664 (3 : Int32) 3 il_3 (by decide)
                  have t_46763 := ia_add v2_q46660 (v3_q46664 / (3 : Int32)) (by omega) (by omega)
                  have t_46764 := ia_add (v2_q46660 + (v3_q46664 / (3 : Int32))) (180 : Int32) (by omega) (by omega)
                  have t_46765 := ia_rem2 ((v2_q46660 + (v3_q46664 / (3 : Int32))) + (180 : Int32)) (360 : Int32) 360 il_360 (by decide)
                  exact wq_s ⟨(show -359 ≤ (((v2_q46660 + (v3_q46664 / (3 : Int32))) + (180 : Int32)) - ((((v2_q46660 + (v3_q46664 / (3 : Int32))) + (180 : Int32)) / (360 : Int32)) * (360 : Int32))).toInt ∧ (((v2_q46660 + (v3_q46664 / (3 : Int32))) + (180 : Int32)) - ((((v2_q46660 + (v3_q46664 / (3 : Int32))) + (180 : Int32)) / (360 : Int32)) * (360 : Int32))).toInt ≤ 359 from ⟨by omega, by omega⟩), trivial⟩
              · refine wq_eq (fun hc_46766 => ?_) (fun hc_46767 => ?_)
                · unfold fX12_houseAt_J195
                  refine wq_eq (fun hc_46768 => ?_) (fun hc_46769 => ?_)
                  · exfalso; omega
                  · have l_2 := il_2
                    have t_46770 := ia_mul (2 : Int32) (2) il_2 v3_q46664 (by omega) (by omega)
                    have t_46771 := ia_div2 ((2 : Int32) * v3_q46664) (3 : Int32) 3 il_3 (by decide)
                    have t_46772 := ia_add v2_q46660 (((2 : Int32) * v3_q46664) / (3 : Int32)) (by omega) (by omega)
                    have t_46773 := ia_add (v2_q46660 + (((2 : Int32) * v3_q46664) / (3 : Int32))) (180 : Int32) (by omega) (by omega)
                    have t_46774 := ia_rem2 ((v2_q46660 + (((2 : Int32) * v3_q46664) / (3 : Int32))) + (180 : Int32)) (360 : Int32) 360 il_360 (by decide)
                    exact wq_s ⟨(show -359 ≤ (((v2_q46660 + (((2 : Int32) * v3_q46664) / (3 : Int32))) + (180 : Int32)) - ((((v2_q46660 + (((2 : Int32) * v3_q46664) / (3 : Int32))) + (180 : Int32)) / (360 : Int32)) * (360 : Int32))).toInt ∧ (((v2_q46660 + (((2 : Int32) * v3_q46664) / (3 : Int32))) + (180 : Int32)) - ((((v2_q46660 + (((2 : Int32) * v3_q46664) / (3 : Int32))) + (180 : Int32)) / (360 : Int32)) * (360 : Int32))).toInt ≤ 359 from ⟨by omega, by omega⟩), trivial⟩
                · have l_2 := il_2
                  refine wq_eq (fun hc_46775 => ?_) (fun hc_46776 => ?_)
                  · unfold fX12_houseAt_J195
                    refine wq_eq (fun hc_46777 => ?_) (fun hc_46778 => ?_)
                    · exfalso; omega
                    · have t_46779 := ia_div2 v4_q46668 (3 : Int32) 3 il_3 (by decide)
                      have t_46780 := ia_add x1 (v4_q46668 / (3 : Int32)) (by omega) (by omega)
                      have t_46781 := ia_add (x1 + (v4_q46668 / (3 : Int32))) (180 : Int32) (by omega) (by omega)
                      have t_46782 := ia_rem ((x1 + (v4_q46668 / (3 : Int32))) + (180 : Int32)) (360 : Int32) 360 il_360 (by decide) (by omega)
                      exact wq_s ⟨(show -359 ≤ (((x1 + (v4_q46668 / (3 : Int32))) + (180 : Int32)) - ((((x1 + (v4_q46668 / (3 : Int32))) + (180 : Int32)) / (360 : Int32)) * (360 : Int32))).toInt ∧ (((x1 + (v4_q46668 / (3 : Int32))) + (180 : Int32)) - ((((x1 + (v4_q46668 / (3 : Int32))) + (180 : Int32)) / (360 : Int32)) * (360 : Int32))).toInt ≤ 359 from ⟨by omega, by omega⟩), trivial⟩
                  · unfold fX12_houseAt_J195
                    refine wq_eq (fun hc_46783 => ?_) (fun hc_46784 => ?_)
                    · have t_46785 := ia_mul (2 : Int32) (2) il_2 v4_q46668 (by omega) (by omega)
                      have t_46786 := ia_div2 ((2 : Int32) * v4_q46668) (3 : Int32) 3 il_3 (by decide)
                      have t_46787 := ia_add x1 (((2 : Int32) * v4_q46668) / (3 : Int32)) (by omega) (by omega)
                      have t_46788 := ia_rem2 (x1 + (((2 : Int32) * v4_q46668) / (3 : Int32))) (360 : Int32) 360 il_360 (by decide)
                      exact wq_s ⟨(show -359 ≤ ((x1 + (((2 : Int32) * v4_q46668) / (3 : Int32))) - (((x1 + (((2 : Int32) * v4_q46668) / (3 : Int32))) / (360 : Int32)) * (360 : Int32))).toInt ∧ ((x1 + (((2 : Int32) * v4_q46668) / (3 : Int32))) - (((x1 + (((2 : Int32) * v4_q46668) / (3 : Int32))) / (360 : Int32)) * (360 : Int32))).toInt ≤ 359 from ⟨by omega, by omega⟩), trivial⟩
                    · have t_46789 := ia_mul (2 : Int32) (2) il_2 v4_q46668 (by omega) (by omega)
                      have t_46790 := ia_div2 ((2 : Int32) * v4_q46668) (3 : Int32) 3 il_3 (by decide)
                      have t_46791 := ia_add x1 (((2 : Int32) * v4_q46668) / (3 : Int32)) (by omega) (by omega)
                      have t_46792 := ia_add (x1 + (((2 : Int32) * v4_q46668) / (3 : Int32))) (180 : Int32) (by omega) (by omega)
                      have t_46793 := ia_rem2 ((x1 + (((2 : Int32) * v4_q46668) / (3 : Int32))) + (180 : Int32)) (360 : Int32) 360 il_360 (by decide)
                      exact wq_s ⟨(show -359 ≤ (((x1 + (((2 : Int32) * v4_q46668) / (3 : Int32))) + (180 : Int32)) - ((((x1 + (((2 : Int32) * v4_q46668) / (3 : Int32))) + (180 : Int32)) / (360 : Int32)) * (360 : Int32))).toInt ∧ (((x1 + (((2 : Int32) * v4_q46668) / (3 : Int32))) + (180 : Int32)) - ((((x1 + (((2 : Int32) * v4_q46668) / (3 : Int32))) + (180 : Int32)) / (360 : Int32)) * (360 : Int32))).toInt ≤ 359 from ⟨by omega, by omega⟩), trivial⟩

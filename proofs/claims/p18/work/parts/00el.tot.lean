theorem tt_st182 {N : Nat} (hN : 3000000000 ≤ N) (I0 : Nat → Int32) (M : Nat → Nat → Int32) : ∀ (fu : Nat) (I : Nat → Int32) (L : Int64), KX12 I M → FR I0 I → I 4 = I0 4 → I 5 = I0 5 → (I0 7).toInt < (I 7).toInt → 600 - (I 7).toInt < (fu : Int) → wq (fX12_steps_L182 N fu I L M) (SP I0 M) := by
  intro fu
  induction fu with
  | zero => intro I L k hf h4 h5 hp hm; have := k.i7; exfalso; omega
  | succ fu ih =>
    intro I L k hf h4 h5 hp hm
    rw [fX12_steps_L182.eq_2]
    have h7 := k.i7
    have h6 := k.i6
    have l_0 := il_0
    have l_1 := il_1
    refine wq_b (tt_fX12_byteAt hN I L M (I 7) h7 k) (fun r10 h10 => ?_)
    obtain ⟨h10, -⟩ := h10
    refine wq_b (tt_fX12_isDigit hN r10) (fun r11 h11 => ?_)
    obtain ⟨h11, -, -⟩ := h11
    refine wq_eq (fun hc => ?_) (fun hc => ?_)
    · refine wq_v (fun J e => ?_)
      subst e
      exact tt_st279 N I0 _ L M (KX12.si8 k) (hf.up (by omega)) h4 h5 ⟨by show _ ≤ (I 7).toInt; omega, Or.inr hp⟩
    · have ta := ia_add (I 7) (1 : Int32) (by omega) (by omega)
      have hgo : ∀ (J : Nat → Int32) (L2 : Int64), KX12 J M → FR I0 J → J 4 = I0 4 → J 5 = I0 5 → J 7 = I 7 → wq (fX12_steps_L182 N fu (upd J 7 (I 7 + 1)) L2 M) (SP I0 M) := by
        intro J L2 kJ fJ j4 j5 j7
        refine ih _ L2 (KX12.si7 kJ ⟨by omega, by omega⟩) (fJ.up (by omega)) j4 j5 ?_ ?_
        · show (I0 7).toInt < (I 7 + 1).toInt
          omega
        · show 600 - (I 7 + 1).toInt < _
          omega
      refine wq_le (fun hc2 => ?_) (fun hc2 => ?_)
      · refine wq_v (fun J e => ?_)
        subst e
        exact hgo I L k hf h4 h5 rfl
      · refine wq_b (tt_fX12_byteAt hN I L M (I 7) h7 k) (fun r14 h14 => ?_)
        refine wq_v (fun J e => ?_)
        refine wq_v (fun J2 e2 => ?_)
        have q7 : J 7 = I 7 := by rw [e]; rfl
        rw [q7] at e2
        subst e2
        refine hgo J L ?_ ?_ ?_ ?_ q7
        · rw [e]; exact KX12.si11 k
        · rw [e]; exact hf.up (by omega)
        · rw [e]; exact h4
        · rw [e]; exact h5
theorem tt_st103 {N : Nat} (hN : 3000000000 ≤ N) (I0 : Nat → Int32) (M : Nat → Nat → Int32) : ∀ (fu : Nat) (I : Nat → Int32) (L : Int64), KX12 I M → FR I0 I → I 4 = I0 4 → I 5 = I0 5 → (I0 7).toInt < (I 7).toInt → 600 - (I 7).toInt < (fu : Int) → wq (fX12_steps_L103 N fu I L M) (SP I0 M) := by
  intro fu
  induction fu with
  | zero => intro I L k hf h4 h5 hp hm; have := k.i7; exfalso; omega
  | succ fu ih =>
    intro I L k hf h4 h5 hp hm
    rw [fX12_steps_L103.eq_2]
    have h7 := k.i7
    have h6 := k.i6
    have l_0 := il_0
    have l_1 := il_1
    refine wq_b (tt_fX12_byteAt hN I L M (I 7) h7 k) (fun r10 h10 => ?_)
    obtain ⟨h10, -⟩ := h10
    refine wq_b (tt_fX12_isLetter hN r10) (fun r11 h11 => ?_)
    obtain ⟨h11, -, -⟩ := h11
    refine wq_eq (fun hc => ?_) (fun hc => ?_)
    · refine wq_v (fun J e => ?_)
      subst e
      exact tt_st279 N I0 _ L M (KX12.si8 k) (hf.up (by omega)) h4 h5 ⟨by show _ ≤ (I 7).toInt; omega, Or.inr hp⟩
    · have ta := ia_add (I 7) (1 : Int32) (by omega) (by omega)
      have hgo : ∀ (J : Nat → Int32) (L2 : Int64), KX12 J M → FR I0 J → J 4 = I0 4 → J 5 = I0 5 → J 7 = I 7 → wq (fX12_steps_L103 N fu (upd J 7 (I 7 + 1)) L2 M) (SP I0 M) := by
        intro J L2 kJ fJ j4 j5 j7
        refine ih _ L2 (KX12.si7 kJ ⟨by omega, by omega⟩) (fJ.up (by omega)) j4 j5 ?_ ?_
        · show (I0 7).toInt < (I 7 + 1).toInt
          omega
        · show 600 - (I 7 + 1).toInt < _
          omega
      refine wq_le (fun hc2 => ?_) (fun hc2 => ?_)
      · refine wq_v (fun J e => ?_)
        subst e
        exact hgo I L k hf h4 h5 rfl
      · refine wq_b (tt_fX12_byteAt hN I L M (I 7) h7 k) (fun r14 h14 => ?_)
        refine wq_v (fun L2 eL => ?_)
        refine wq_v (fun J e => ?_)
        subst e
        exact hgo I L2 k hf h4 h5 rfl
theorem tt_st50 {N : Nat} (hN : 3000000000 ≤ N) (I0 I : Nat → Int32) (L : Int64) (M : Nat → Nat → Int32) (k : KX12 I M) (hf : FR I0 I) (h4 : I 4 = I0 4) (h5 : I 5 = I0 5) (hp : (I0 7).toInt ≤ (I 7).toInt) : wq (fX12_steps_J50 N I L M) (SP I0 M) := by
  unfold fX12_steps_J50
  refine wq_v (fun I3 e3 => ?_)
  refine wq_v (fun L4 e4 => ?_)
  refine wq_v (fun I5 e5 => ?_)
  have k5 : KX12 I5 M := by rw [e5, e3]; exact KX12.si11 (KX12.si9 k)
  have f5 : FR I0 I5 := by rw [e5, e3]; exact (hf.up (by omega)).up (by omega)
  have g4 : I5 4 = I0 4 := by rw [e5, e3]; exact h4
  have g5 : I5 5 = I0 5 := by rw [e5, e3]; exact h5
  have g7 : I5 7 = I 7 := by rw [e5, e3]; rfl
  rw [← g7] at hp
  clear e5 e3
  have h7 := k5.i7
  have h6 := k5.i6
  have l_0 := il_0
  have l_1 := il_1
  obtain ⟨r6, e6, -⟩ := tt_fX12_byteAt hN I5 L4 M (I5 7) h7 k5
  rw [e6, Option.bind_some]
  refine wq_lt (fun hc => ?_) (fun hc => ?_)
  · obtain ⟨r7, e7, -⟩ := tt_fX12_isLetter hN r6
    rw [e7, Option.bind_some]
    refine wq_eq (fun hc1 => ?_) (fun hc1 => ?_)
    · obtain ⟨r8, e8, -⟩ := tt_fX12_isDigit hN r6
      rw [e8, Option.bind_some]
      refine wq_eq (fun hc2 => ?_) (fun hc2 => ?_)
      · have ta := ia_add (I5 7) (1 : Int32) (by omega) (by omega)
        refine wq_v (fun I9 e9 => ?_)
        subst e9
        have k9 : KX12 (upd I5 7 (I5 7 + 1)) M := KX12.si7 k5 ⟨by omega, by omega⟩
        have hz : ∀ z : Int32, wq (fX12_steps_J276 N (upd I5 7 (I5 7 + 1)) L4 M z) (SP I0 M) := by
          intro z
          unfold fX12_steps_J276
          refine wq_v (fun J e => ?_)
          subst e
          refine tt_st279 N I0 _ L4 M (KX12.si8 k9) ((f5.up (by omega)).up (by omega)) g4 g5 ⟨?_, Or.inr ?_⟩
          · show _ ≤ (I5 7 + 1).toInt
            omega
          · show _ < (I5 7 + 1).toInt
            omega
        exact wq_i (fun _ => hz _) (fun _ => hz _)
      · have hq : wq (fX12_steps_L182 N N I5 L4 M) (SP I0 M) := by
          obtain ⟨n, rfl⟩ : ∃ n, N = n + 1 := ⟨N - 1, by omega⟩
          rw [fX12_steps_L182.eq_2, e6, Option.bind_some, e8, Option.bind_some]
          have ta := ia_add (I5 7) (1 : Int32) (by omega) (by omega)
          have hgo : ∀ (J : Nat → Int32) (L2 : Int64), KX12 J M → FR I0 J → J 4 = I0 4 → J 5 = I0 5 → J 7 = I5 7 → wq (fX12_steps_L182 (n + 1) n (upd J 7 (I5 7 + 1)) L2 M) (SP I0 M) := by
            intro J L2 kJ fJ j4 j5 j7
            refine tt_st182 hN I0 M n _ L2 (KX12.si7 kJ ⟨by omega, by omega⟩) (fJ.up (by omega)) j4 j5 ?_ ?_
            · show (I0 7).toInt < (I5 7 + 1).toInt
              omega
            · show 600 - (I5 7 + 1).toInt < _
              omega
          refine wq_eq (fun hx => absurd hx hc2) (fun _ => ?_)
          refine wq_le (fun hc2 => ?_) (fun hc2 => ?_)
          · refine wq_v (fun J e => ?_)
            subst e
            exact hgo I5 L4 k5 f5 g4 g5 rfl
          · rw [Option.bind_some]
            refine wq_v (fun J e => ?_)
            refine wq_v (fun J2 e2 => ?_)
            have q7 : J 7 = I5 7 := by rw [e]; rfl
            rw [q7] at e2
            subst e2
            refine hgo J L4 ?_ ?_ ?_ ?_ q7
            · rw [e]; exact KX12.si11 k5
            · rw [e]; exact f5.up (by omega)
            · rw [e]; exact g4
            · rw [e]; exact g5
        exact hq
    · have hq : wq (fX12_steps_L103 N N I5 L4 M) (SP I0 M) := by
        obtain ⟨n, rfl⟩ : ∃ n, N = n + 1 := ⟨N - 1, by omega⟩
        rw [fX12_steps_L103.eq_2, e6, Option.bind_some, e7, Option.bind_some]
        have ta := ia_add (I5 7) (1 : Int32) (by omega) (by omega)
        have hgo : ∀ (J : Nat → Int32) (L2 : Int64), KX12 J M → FR I0 J → J 4 = I0 4 → J 5 = I0 5 → J 7 = I5 7 → wq (fX12_steps_L103 (n + 1) n (upd J 7 (I5 7 + 1)) L2 M) (SP I0 M) := by
          intro J L2 kJ fJ j4 j5 j7
          refine tt_st103 hN I0 M n _ L2 (KX12.si7 kJ ⟨by omega, by omega⟩) (fJ.up (by omega)) j4 j5 ?_ ?_
          · show (I0 7).toInt < (I5 7 + 1).toInt
            omega
          · show 600 - (I5 7 + 1).toInt < _
            omega
        refine wq_eq (fun hx => absurd hx hc1) (fun _ => ?_)
        refine wq_le (fun hc2 => ?_) (fun hc2 => ?_)
        · refine wq_v (fun J e => ?_)
          subst e
          exact hgo I5 L4 k5 f5 g4 g5 rfl
        · rw [Option.bind_some]
          refine wq_v (fun L2 eL => ?_)
          refine wq_v (fun J e => ?_)
          subst e
          exact hgo I5 L2 k5 f5 g4 g5 rfl
      exact hq
  · refine wq_v (fun J e => ?_)
    subst e
    exact tt_st279 N I0 _ L4 M (KX12.si8 k5) (f5.up (by omega)) g4 g5 ⟨hp, Or.inl il_0⟩
theorem tt_st0 {N : Nat} (hN : 3000000000 ≤ N) (I0 : Nat → Int32) (M : Nat → Nat → Int32) : ∀ (fu : Nat) (I : Nat → Int32) (L : Int64), KX12 I M → FR I0 I → I 4 = I0 4 → I 5 = I0 5 → (I0 7).toInt ≤ (I 7).toInt → 600 - (I 7).toInt < (fu : Int) → wq (fX12_steps_L0 N fu I L M) (SP I0 M) := by
  intro fu
  induction fu with
  | zero => intro I L k hf h4 h5 hp hm; have := k.i7; exfalso; omega
  | succ fu ih =>
    intro I L k hf h4 h5 hp hm
    rw [fX12_steps_L0.eq_2]
    have h7 := k.i7
    have h6 := k.i6
    have l_0 := il_0
    have l_1 := il_1
    refine wq_le (fun hc => ?_) (fun hc => ?_)
    · exact tt_st50 hN I0 I L M k hf h4 h5 hp
    · have ta := ia_add (I 7) (1 : Int32) (by omega) (by omega)
      have hn : wq (fX12_steps_L0 N fu (upd I 7 (I 7 + 1)) L M) (SP I0 M) := by
        refine ih _ L (KX12.si7 k ⟨by omega, by omega⟩) (hf.up (by omega)) h4 h5 ?_ ?_
        · show _ ≤ (I 7 + 1).toInt
          omega
        · show 600 - (I 7 + 1).toInt < _
          omega
      refine wq_b (tt_fX12_byteAt hN I L M (I 7) h7 k) (fun r25 h25 => ?_)
      refine wq_i (fun _ => ?_) (fun _ => ?_)
      · exact wq_v (fun J e => by subst e; exact hn)
      · refine wq_b (tt_fX12_byteAt hN I L M (I 7) h7 k) (fun r27 h27 => ?_)
        refine wq_i (fun _ => ?_) (fun _ => ?_)
        · exact wq_v (fun J e => by subst e; exact hn)
        · exact tt_st50 hN I0 I L M k hf h4 h5 hp
theorem tt_steps {N : Nat} (hN : 3000000000 ≤ N) (I : Nat → Int32) (L : Int64) (M : Nat → Nat → Int32) (k : KX12 I M) : wq (fX12_steps N I L M) (SP I M) := by
  unfold fX12_steps
  have h7 := k.i7
  exact tt_st0 hN I M N I L k (FR.rf I) rfl rfl (by omega) (by omega)
theorem tt_fX12_steps {N : Nat} (hN : 3000000000 ≤ N) (I0 : Nat → Int32) (L0 : Int64) (M0 : Nat → Nat → Int32) (k_I0 : KX12 I0 M0) : wq (fX12_steps N I0 L0 M0) (fun r => KX12 r.1 r.2.2 ∧ True) := wq_w (tt_steps hN I0 L0 M0 k_I0) (fun r h => by rw [h.1]; exact ⟨h.2.2.2.2.1, trivial⟩)
set_option maxHeartbeats 4000000 in
theorem tt_fX12_spelled {N : Nat} (hN : 3000000000 ≤ N) (x0 : Int32) (x1 : Int32) (x2 : Int32) (x3 : Int32) (x4 : Int32) (x5 : Int32) (x6 : Int32)  : wq (fX12_spelled N x0 x1 x2 x3 x4 x5 x6) (fun r => True) := by
  unfold fX12_spelled
  refine wq_v (fun v6_q28674 h_v6_q28674 => ?_)
  have b_28675 := i32b x1
  have l_0 := il_0
  refine wq_eq (fun hc_28676 => ?_) (fun hc_28677 => ?_)
  · unfold fX12_spelled_J23
    have b_28678 := i32b x2
    refine wq_eq (fun hc_28679 => ?_) (fun hc_28680 => ?_)
    · unfold fX12_spelled_J39
      have b_28681 := i32b x3
      refine wq_eq (fun hc_28682 => ?_) (fun hc_28683 => ?_)
      · unfold fX12_spelled_J55
        have b_28684 := i32b x4
        refine wq_eq (fun hc_28685 => ?_) (fun hc_28686 => ?_)
        · unfold fX12_spelled_J73
          have b_28687 := i32b x5
          refine wq_eq (fun hc_28688 => ?_) (fun hc_28689 => ?_)
          · unfold fX12_spelled_J91
            have b_28690 := i32b x6
            refine wq_eq (fun hc_28691 => ?_) (fun hc_28692 => ?_)
            · exact wq_s trivial
            · refine wq_v (fun v1_q28693 h_v1_q28693 => ?_)
              exact wq_s trivial
          · refine wq_v (fun v2_q28694 h_v2_q28694 => ?_)
            unfold fX12_spelled_J91
            have b_28695 := i32b x6
            refine wq_eq (fun hc_28696 => ?_) (fun hc_28697 => ?_)
            · exact wq_s trivial
            · refine wq_v (fun v1_q28698 h_v1_q28698 => ?_)
              exact wq_s trivial
        · refine wq_v (fun v3_q28699 h_v3_q28699 => ?_)
          unfold fX12_spelled_J73
          have b_28700 := i32b x5
          refine wq_eq (fun hc_28701 => ?_) (fun hc_28702 => ?_)
          · unfold fX12_spelled_J91
            have b_28703 := i32b x6
            refine wq_eq (fun hc_28704 => ?_) (fun hc_28705 => ?_)
            · exact wq_s trivial
            · refine wq_v (fun v1_q28706 h_v1_q28706 => ?_)
              exact wq_s trivial
          · refine wq_v (fun v2_q28707 h_v2_q28707 => ?_)
            unfold fX12_spelled_J91
            have b_28708 := i32b x6
            refine wq_eq (fun hc_28709 => ?_) (fun hc_28710 => ?_)
            · exact wq_s trivial
            · refine wq_v (fun v1_q28711 h_v1_q28711 => ?_)
              exact wq_s trivial
      · refine wq_v (fun v4_q28712 h_v4_q28712 => ?_)
        unfold fX12_spelled_J55
        have b_28713 := i32b x4
        refine wq_eq (fun hc_28714 => ?_) (fun hc_28715 => ?_)
        · unfold fX12_spelled_J73
          have b_28716 := i32b x5
          refine wq_eq (fun hc_28717 => ?_) (fun hc_28718 => ?_)
          · unfold fX12_spelled_J91
            have b_28719 := i32b x6
            refine wq_eq (fun hc_28720 => ?_) (fun hc_28721 => ?_)
            · exact wq_s trivial
            · refine wq_v (fun v1_q28722 h_v1_q28722 => ?_)
              exact wq_s trivial
          · refine wq_v (fun v2_q28723 h_v2_q28723 => ?_)
            unfold fX12_spelled_J91
            have b_28724 := i32b x6
            refine wq_eq (fun hc_28725 => ?_) (fun hc_28726 => ?_)
            · exact wq_s trivial
            · refine wq_v (fun v1_q28727 h_v1_q28727 => ?_)
              exact wq_s trivial
        · refine wq_v (fun v3_q28728 h_v3_q28728 => ?_)
          unfold fX12_spelled_J73
          have b_28729 := i32b x5
          refine wq_eq (fun hc_28730 => ?_) (fun hc_28731 => ?_)
          · unfold fX12_spelled_J91
            have b_28732 := i32b x6
            refine wq_eq (fun hc_28733 => ?_) (fun hc_28734 => ?_)
            · exact wq_s trivial
            · refine wq_v (fun v1_q28735 h_v1_q28735 => ?_)
              exact wq_s trivial
          · refine wq_v (fun v2_q28736 h_v2_q28736 => ?_)
            unfold fX12_spelled_J91
            have b_28737 := i32b x6
            refine wq_eq (fun hc_28738 => ?_) (fun hc_28739 => ?_)
            · exact wq_s trivial
            · refine wq_v (fun v1_q28740 h_v1_q28740 => ?_)
              exact wq_s trivial
    · refine wq_v (fun v5_q28741 h_v5_q28741 => ?_)
      unfold fX12_spelled_J39
      have b_28742 := i32b x3
      refine wq_eq (fun hc_28743 => ?_) (fun hc_28744 => ?_)
      · unfold fX12_spelled_J55
        have b_28745 := i32b x4
        refine wq_eq (fun hc_28746 => ?_) (fun hc_28747 => ?_)
        · unfold fX12_spelled_J73
          have b_28748 := i32b x5
          refine wq_eq (fun hc_28749 => ?_) (fun hc_28750 => ?_)
          · unfold fX12_spelled_J91
            have b_28751 := i32b x6
            refine wq_eq (fun hc_28752 => ?_) (fun hc_28753 => ?_)
            · exact wq_s trivial
            · refine wq_v (fun v1_q28754 h_v1_q28754 => ?_)
              exact wq_s trivial
          · refine wq_v (fun v2_q28755 h_v2_q28755 => ?_)
            unfold fX12_spelled_J91
            have b_28756 := i32b x6
            refine wq_eq (fun hc_28757 => ?_) (fun hc_28758 => ?_)
            · exact wq_s trivial
            · refine wq_v (fun v1_q28759 h_v1_q28759 => ?_)
              exact wq_s trivial
        · refine wq_v (fun v3_q28760 h_v3_q28760 => ?_)
          unfold fX12_spelled_J73
          have b_28761 := i32b x5
          refine wq_eq (fun hc_28762 => ?_) (fun hc_28763 => ?_)
          · unfold fX12_spelled_J91
            have b_28764 := i32b x6
            refine wq_eq (fun hc_28765 => ?_) (fun hc_28766 => ?_)
            · exact wq_s trivial
            · refine wq_v (fun v1_q28767 h_v1_q28767 => ?_)
              exact wq_s trivial
          · refine wq_v (fun v2_q28768 h_v2_q28768 => ?_)
            unfold fX12_spelled_J91
            have b_28769 := i32b x6
            refine wq_eq (fun hc_28770 => ?_) (fun hc_28771 => ?_)
            · exact wq_s trivial
            · refine wq_v (fun v1_q28772 h_v1_q28772 => ?_)
              exact wq_s trivial
      · refine wq_v (fun v4_q28773 h_v4_q28773 => ?_)
        unfold fX12_spelled_J55
        have b_28774 := i32b x4
        refine wq_eq (fun hc_28775 => ?_) (fun hc_28776 => ?_)
        · unfold fX12_spelled_J73
          have b_28777 := i32b x5
          refine wq_eq (fun hc_28778 => ?_) (fun hc_28779 => ?_)
          · unfold fX12_spelled_J91
            have b_28780 := i32b x6
            refine wq_eq (fun hc_28781 => ?_) (fun hc_28782 => ?_)
            · exact wq_s trivial
            · refine wq_v (fun v1_q28783 h_v1_q28783 => ?_)
              exact wq_s trivial
          · refine wq_v (fun v2_q28784 h_v2_q28784 => ?_)
            unfold fX12_spelled_J91
            have b_28785 := i32b x6
            refine wq_eq (fun hc_28786 => ?_) (fun hc_28787 => ?_)
            · exact wq_s trivial
            · refine wq_v (fun v1_q28788 h_v1_q28788 => ?_)
              exact wq_s trivial
        · refine wq_v (fun v3_q28789 h_v3_q28789 => ?_)
          unfold fX12_spelled_J73
          have b_28790 := i32b x5
          refine wq_eq (fun hc_28791 => ?_) (fun hc_28792 => ?_)
          · unfold fX12_spelled_J91
            have b_28793 := i32b x6
            refine wq_eq (fun hc_28794 => ?_) (fun hc_28795 => ?_)
            · exact wq_s trivial
            · refine wq_v (fun v1_q28796 h_v1_q28796 => ?_)
              exact wq_s trivial
          · refine wq_v (fun v2_q28797 h_v2_q28797 => ?_)
            unfold fX12_spelled_J91
            have b_28798 := i32b x6
            refine wq_eq (fun hc_28799 => ?_) (fun hc_28800 => ?_)
            · exact wq_s trivial
            · refine wq_v (fun v1_q28801 h_v1_q28801 => ?_)
              exact wq_s trivial
  · refine wq_v (fun v7_q28802 h_v7_q28802 => ?_)
    unfold fX12_spelled_J23
    have b_28803 := i32b x2
    refine wq_eq (fun hc_28804 => ?_) (fun hc_28805 => ?_)
    · unfold fX12_spelled_J39
      have b_28806 := i32b x3
      refine wq_eq (fun hc_28807 => ?_) (fun hc_28808 => ?_)
      · unfold fX12_spelled_J55
        have b_28809 := i32b x4
        refine wq_eq (fun hc_28810 => ?_) (fun hc_28811 => ?_)
        · unfold fX12_spelled_J73
          have b_28812 := i32b x5
          refine wq_eq (fun hc_28813 => ?_) (fun hc_28814 => ?_)
          · unfold fX12_spelled_J91
            have b_28815 := i32b x6
            refine wq_eq (fun hc_28816 => ?_) (fun hc_28817 => ?_)
            · exact wq_s trivial
            · refine wq_v (fun v1_q28818 h_v1_q28818 => ?_)
              exact wq_s trivial
          · refine wq_v (fun v2_q28819 h_v2_q28819 => ?_)
            unfold fX12_spelled_J91
            have b_28820 := i32b x6
            refine wq_eq (fun hc_28821 => ?_) (fun hc_28822 => ?_)
            · exact wq_s trivial
            · refine wq_v (fun v1_q28823 h_v1_q28823 => ?_)
              exact wq_s trivial
        · refine wq_v (fun v3_q28824 h_v3_q28824 => ?_)
          unfold fX12_spelled_J73
          have b_28825 := i32b x5
          refine wq_eq (fun hc_28826 => ?_) (fun hc_28827 => ?_)
          · unfold fX12_spelled_J91
            have b_28828 := i32b x6
            refine wq_eq (fun hc_28829 => ?_) (fun hc_28830 => ?_)
            · exact wq_s trivial
            · refine wq_v (fun v1_q28831 h_v1_q28831 => ?_)
              exact wq_s trivial
          · refine wq_v (fun v2_q28832 h_v2_q28832 => ?_)
            unfold fX12_spelled_J91
            have b_28833 := i32b x6
            refine wq_eq (fun hc_28834 => ?_) (fun hc_28835 => ?_)
            · exact wq_s trivial
            · refine wq_v (fun v1_q28836 h_v1_q28836 => ?_)
              exact wq_s trivial
      · refine wq_v (fun v4_q28837 h_v4_q28837 => ?_)
        unfold fX12_spelled_J55
        have b_28838 := i32b x4
        refine wq_eq (fun hc_28839 => ?_) (fun hc_28840 => ?_)
        · unfold fX12_spelled_J73
          have b_28841 := i32b x5
          refine wq_eq (fun hc_28842 => ?_) (fun hc_28843 => ?_)
          · unfold fX12_spelled_J91
            have b_28844 := i32b x6
            refine wq_eq (fun hc_28845 => ?_) (fun hc_28846 => ?_)
            · exact wq_s trivial
            · refine wq_v (fun v1_q28847 h_v1_q28847 => ?_)
              exact wq_s trivial
          · refine wq_v (fun v2_q28848 h_v2_q28848 => ?_)
            unfold fX12_spelled_J91
            have b_28849 := i32b x6
            refine wq_eq (fun hc_28850 => ?_) (fun hc_28851 => ?_)
            · exact wq_s trivial
            · refine wq_v (fun v1_q28852 h_v1_q28852 => ?_)
              exact wq_s trivial
        · refine wq_v (fun v3_q28853 h_v3_q28853 => ?_)
          unfold fX12_spelled_J73
          have b_28854 := i32b x5
          refine wq_eq (fun hc_28855 => ?_) (fun hc_28856 => ?_)
          · unfold fX12_spelled_J91
            have b_28857 := i32b x6
            refine wq_eq (fun hc_28858 => ?_) (fun hc_28859 => ?_)
            · exact wq_s trivial
            · refine wq_v (fun v1_q28860 h_v1_q28860 => ?_)
              exact wq_s trivial
          · refine wq_v (fun v2_q28861 h_v2_q28861 => ?_)
            unfold fX12_spelled_J91
            have b_28862 := i32b x6
            refine wq_eq (fun hc_28863 => ?_) (fun hc_28864 => ?_)
            · exact wq_s trivial
            · refine wq_v (fun v1_q28865 h_v1_q28865 => ?_)
              exact wq_s trivial
    · refine wq_v (fun v5_q28866 h_v5_q28866 => ?_)
      unfold fX12_spelled_J39
      have b_28867 := i32b x3
      refine wq_eq (fun hc_28868 => ?_) (fun hc_28869 => ?_)
      · unfold fX12_spelled_J55
        have b_28870 := i32b x4
        refine wq_eq (fun hc_28871 => ?_) (fun hc_28872 => ?_)
        · unfold fX12_spelled_J73
          have b_28873 := i32b x5
          refine wq_eq (fun hc_28874 => ?_) (fun hc_28875 => ?_)
          · unfold fX12_spelled_J91
            have b_28876 := i32b x6
            refine wq_eq (fun hc_28877 => ?_) (fun hc_28878 => ?_)
            · exact wq_s trivial
            · refine wq_v (fun v1_q28879 h_v1_q28879 => ?_)
              exact wq_s trivial
          · refine wq_v (fun v2_q28880 h_v2_q28880 => ?_)
            unfold fX12_spelled_J91
            have b_28881 := i32b x6
            refine wq_eq (fun hc_28882 => ?_) (fun hc_28883 => ?_)
            · exact wq_s trivial
            · refine wq_v (fun v1_q28884 h_v1_q28884 => ?_)
              exact wq_s trivial
        · refine wq_v (fun v3_q28885 h_v3_q28885 => ?_)
          unfold fX12_spelled_J73
          have b_28886 := i32b x5
          refine wq_eq (fun hc_28887 => ?_) (fun hc_28888 => ?_)
          · unfold fX12_spelled_J91
            have b_28889 := i32b x6
            refine wq_eq (fun hc_28890 => ?_) (fun hc_28891 => ?_)
            · exact wq_s trivial
            · refine wq_v (fun v1_q28892 h_v1_q28892 => ?_)
              exact wq_s trivial
          · refine wq_v (fun v2_q28893 h_v2_q28893 => ?_)
            unfold fX12_spelled_J91
            have b_28894 := i32b x6
            refine wq_eq (fun hc_28895 => ?_) (fun hc_28896 => ?_)
            · exact wq_s trivial
            · refine wq_v (fun v1_q28897 h_v1_q28897 => ?_)
              exact wq_s trivial
      · refine wq_v (fun v4_q28898 h_v4_q28898 => ?_)
        unfold fX12_spelled_J55
        have b_28899 := i32b x4
        refine wq_eq (fun hc_28900 => ?_) (fun hc_28901 => ?_)
        · unfold fX12_spelled_J73
          have b_28902 := i32b x5
          refine wq_eq (fun hc_28903 => ?_) (fun hc_28904 => ?_)
          · unfold fX12_spelled_J91
            have b_28905 := i32b x6
            refine wq_eq (fun hc_28906 => ?_) (fun hc_28907 => ?_)
            · exact wq_s trivial
            · refine wq_v (fun v1_q28908 h_v1_q28908 => ?_)
              exact wq_s trivial
          · refine wq_v (fun v2_q28909 h_v2_q28909 => ?_)
            unfold fX12_spelled_J91
            have b_28910 := i32b x6
            refine wq_eq (fun hc_28911 => ?_) (fun hc_28912 => ?_)
            · exact wq_s trivial
            · refine wq_v (fun v1_q28913 h_v1_q28913 => ?_)
              exact wq_s trivial
        · refine wq_v (fun v3_q28914 h_v3_q28914 => ?_)
          unfold fX12_spelled_J73
          have b_28915 := i32b x5
          refine wq_eq (fun hc_28916 => ?_) (fun hc_28917 => ?_)
          · unfold fX12_spelled_J91
            have b_28918 := i32b x6
            refine wq_eq (fun hc_28919 => ?_) (fun hc_28920 => ?_)
            · exact wq_s trivial
            · refine wq_v (fun v1_q28921 h_v1_q28921 => ?_)
              exact wq_s trivial
          · refine wq_v (fun v2_q28922 h_v2_q28922 => ?_)
            unfold fX12_spelled_J91
            have b_28923 := i32b x6
            refine wq_eq (fun hc_28924 => ?_) (fun hc_28925 => ?_)
            · exact wq_s trivial
            · refine wq_v (fun v1_q28926 h_v1_q28926 => ?_)
              exact wq_s trivial

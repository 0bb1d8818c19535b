theorem tt_fX8_begin {N : Nat} (hN : 3000000000 ≤ N) (I0 : Nat → Int32) (M0 : Nat → Nat → Int32) (x1 : Int32) (x2 : Int32) (x3 : Int32) (h_x1 : 0 ≤ x1.toInt ∧ x1.toInt ≤ 119) (h_x2 : 0 ≤ x2.toInt ∧ x2.toInt ≤ 3) (h_x3 : 0 ≤ x3.toInt ∧ x3.toInt ≤ 1000000) (k_I0 : KX8 I0 M0) : wq (fX8_begin N I0 M0 x1 x2 x3) (fun r => KX8 r.1 r.2 ∧ True) := by
  refine ⟨_, rfl, ?_, trivial⟩
  refine ⟨(show 0 ≤ (1 : Int32).toInt ∧ (1 : Int32).toInt ≤ 1 from by decide), h_x1, h_x2, ⟨h_x3.1, ?_⟩, (show 0 ≤ (0 : Int32).toInt ∧ (0 : Int32).toInt ≤ 1000001 from by decide), ?_, trivial⟩
  · show x3.toInt ≤ 1000001
    omega
  · show (0 : Int32).toInt ≤ x3.toInt
    rw [il_0]; exact h_x3.1
theorem tt_fX8_copyFrom {N : Nat} (hN : 3000000000 ≤ N) (I0 : Nat → Int32) (M0 : Nat → Nat → Int32) (I1 : Nat → Int32) (M1 : Nat → Nat → Int32) (k_I0 : KX8 I0 M0) (k_I1 : KX8 I1 M1) : wq (fX8_copyFrom N I0 M0 I1 M1) (fun r => KX8 r.1 r.2 ∧ True) := by
  unfold fX8_copyFrom
  refine wq_nb (k_I1.i0) ?_
  refine ⟨_, rfl, ?_, trivial⟩
  exact ⟨k_I1.i0, k_I1.i1, k_I1.i2, k_I1.i3, k_I1.i5, k_I1.emn, trivial⟩
theorem tt_lk (N : Nat) (x1 : Int32) (I0 : Nat → Int32) (M0 : Nat → Nat → Int32) (h0 : 0 ≤ (I0 0).toInt ∧ (I0 0).toInt ≤ 1) (h1 : 0 ≤ (I0 1).toInt ∧ (I0 1).toInt ≤ 119) (h2 : 0 ≤ (I0 2).toInt ∧ (I0 2).toInt ≤ 3) (h3 : 0 ≤ (I0 3).toInt ∧ (I0 3).toInt ≤ 1000000) (h5 : 0 ≤ (I0 5).toInt ∧ (I0 5).toInt ≤ (I0 3).toInt) : wq (fX8_lookAt_J27 N x1 I0 M0) (fun r => (0 ≤ (r.1 0).toInt ∧ (r.1 0).toInt ≤ 1) ∧ (0 ≤ (r.1 1).toInt ∧ (r.1 1).toInt ≤ 119) ∧ (0 ≤ (r.1 2).toInt ∧ (r.1 2).toInt ≤ 3) ∧ r.1 3 = I0 3 ∧ (0 ≤ (r.1 5).toInt ∧ (r.1 5).toInt ≤ (I0 3).toInt + 1)) := by
  have l_1 := il_1
  have l_20 := il_20
  have ta := ia_add (I0 5) (1 : Int32) (by omega) (by omega)
  have hJ : ∀ M : Nat → Nat → Int32, wq (fX8_lookAt_J49 N x1 I0 M) (fun r => (0 ≤ (r.1 0).toInt ∧ (r.1 0).toInt ≤ 1) ∧ (0 ≤ (r.1 1).toInt ∧ (r.1 1).toInt ≤ 119) ∧ (0 ≤ (r.1 2).toInt ∧ (r.1 2).toInt ≤ 3) ∧ r.1 3 = I0 3 ∧ (0 ≤ (r.1 5).toInt ∧ (r.1 5).toInt ≤ (I0 3).toInt + 1)) := by
    intro M
    refine ⟨_, rfl, h0, h1, h2, rfl, ?_⟩
    show 0 ≤ (I0 5 + 1).toInt ∧ (I0 5 + 1).toInt ≤ (I0 3).toInt + 1
    omega
  unfold fX8_lookAt_J27
  refine wq_le (fun hc => ?_) (fun hc => ?_)
  · exact hJ _
  · refine wq_in (n := 20) ⟨by omega, by omega⟩ ?_
    exact wq_v (fun M _ => hJ M)
theorem tt_look (N : Nat) (I0 : Nat → Int32) (M0 : Nat → Nat → Int32) (x1 : Int32) (k : KX8 I0 M0) (h3 : (I0 3).toInt ≤ 1000000) : wq (fX8_lookAt N I0 M0 x1) (fun r => (0 ≤ (r.1 0).toInt ∧ (r.1 0).toInt ≤ 1) ∧ (0 ≤ (r.1 1).toInt ∧ (r.1 1).toInt ≤ 119) ∧ (0 ≤ (r.1 2).toInt ∧ (r.1 2).toInt ≤ 3) ∧ r.1 3 = I0 3 ∧ (0 ≤ (r.1 5).toInt ∧ (r.1 5).toInt ≤ (I0 3).toInt + 1)) := by
  unfold fX8_lookAt
  have h5 := k.i5
  have hm := k.emn
  have h3' := k.i3
  refine wq_le (fun hc => ?_) (fun hc => ?_)
  · refine wq_le (fun hc => ?_) (fun hc => ?_)
    · exact tt_lk N x1 I0 M0 k.i0 k.i1 k.i2 ⟨h3'.1, h3⟩ ⟨h5.1, hm⟩
    · refine wq_v (fun I4 e4 => ?_)
      refine wq_v (fun I5 e5 => ?_)
      subst e4
      have q3 : I5 3 = I0 3 := by rw [e5]; rfl
      have q5 : I5 5 = 0 := by rw [e5]; rfl
      have w := tt_lk N x1 I5 M0 (by rw [e5]; exact k.i0) (by rw [e5]; exact k.i1) (by rw [e5]; exact k.i2) (by rw [q3]; exact ⟨h3'.1, h3⟩) (by rw [q3, q5, il_0]; exact ⟨by decide, h3'.1⟩)
      rw [q3] at w
      exact w
  · exact wq_s ⟨k.i0, k.i1, k.i2, rfl, h5.1, (show (I0 5).toInt ≤ (I0 3).toInt + 1 from by omega)⟩
theorem tt_fX8_goOn_L3 {N : Nat} (hN : 3000000000 ≤ N) (I1 : Nat → Int32) (M1 : Nat → Nat → Int32) (I2 : Nat → Int32) (M2 : Nat → Nat → Int32) (x3 : Int32) (k_I1 : KX5 I1 M1) (k_I2 : KX1 I2 M2) : ∀ (fu : Nat) (I0 : Nat → Int32) (M0 : Nat → Nat → Int32) (y : Int32), KX8 I0 M0 → (0 ≤ y.toInt) → (x3.toInt - y.toInt < (fu : Int)) → 0 < fu → wq (fX8_goOn_L3 N I1 M1 I2 M2 x3 fu I0 M0 y) (fun r => KX8 r.2.1 r.2.2 ∧ True) := by
  intro fu
  induction fu with
  | zero => intro I0 M0 y k hy hm h0; omega
  | succ fu ih =>
    intro I0 M0 y k hy hm h0
    rw [fX8_goOn_L3.eq_2]
    have l_1 := il_1
    have l_m := il_1000000
    refine wq_le (fun hc => ?_) (fun hc => ?_)
    · exact wq_s ⟨k, trivial⟩
    · refine wq_lt (fun hc2 => ?_) (fun hc2 => ?_)
      · exact wq_s ⟨k, trivial⟩
      · have h1 := k.i1
        have h2 := k.i2
        have h3 := k.i3
        refine wq_b (tt_fX3_costOn hN I1 M1 I2 M2 (I0 1) (I0 2) (I0 3) (I0 4) h1 h2 ⟨by omega, by omega⟩ k_I1 k_I2) (fun r1 _ => ?_)
        refine wq_b (tt_look N I0 M0 r1 k (by omega)) (fun r2 h => ?_)
        obtain ⟨g0, g1, g2, g3, g5⟩ := h
        have hx := Int32.toInt_lt x3
        have ta := ia_add (I0 3) (1 : Int32) (by omega) (by omega)
        have tb := ia_add y (1 : Int32) (by omega) (by omega)
        refine wq_v (fun I3 e3 => ?_)
        refine wq_v (fun v ev => ?_)
        have tv := congrArg Int32.toInt ev
        refine ih I3 r2.2 v ?_ (by omega) (by omega) (by omega)
        rw [e3, g3]
        refine ⟨g0, g1, g2, ?_, ?_, ?_, trivial⟩
        · show 0 ≤ (I0 3 + 1).toInt ∧ (I0 3 + 1).toInt ≤ 1000001
          omega
        · show 0 ≤ (r2.1 5).toInt ∧ (r2.1 5).toInt ≤ 1000001
          omega
        · show (r2.1 5).toInt ≤ (I0 3 + 1).toInt
          omega
theorem tt_fX8_goOn {N : Nat} (hN : 3000000000 ≤ N) (I0 : Nat → Int32) (M0 : Nat → Nat → Int32) (I1 : Nat → Int32) (M1 : Nat → Nat → Int32) (I2 : Nat → Int32) (M2 : Nat → Nat → Int32) (x3 : Int32) (k_I0 : KX8 I0 M0) (k_I1 : KX5 I1 M1) (k_I2 : KX1 I2 M2) : wq (fX8_goOn N I0 M0 I1 M1 I2 M2 x3) (fun r => KX8 r.2.1 r.2.2 ∧ True) := by
  unfold fX8_goOn
  have l_0 := il_0
  have hx := Int32.toInt_lt x3
  exact tt_fX8_goOn_L3 hN I1 M1 I2 M2 x3 k_I1 k_I2 N I0 M0 (0 : Int32) k_I0 (by omega) (by omega) (by omega)
set_option maxHeartbeats 4000000 in
theorem tt_fX8_howManyKept {N : Nat} (hN : 3000000000 ≤ N) (I0 : Nat → Int32) (M0 : Nat → Nat → Int32) (k_I0 : KX8 I0 M0) : wq (fX8_howManyKept N I0 M0) (fun r => (0 ≤ r.toInt ∧ r.toInt ≤ 20) ∧ True) := by
  unfold fX8_howManyKept
  have l_20 := il_20
  have t_10637 := KX8.i5 k_I0
  have t_10638 := ite_lt (20 : Int32) (I0 5) (20 : Int32) (I0 5)
  exact wq_s ⟨(show 0 ≤ (if ((20 : Int32) < (I0 5)) then (20 : Int32) else (I0 5)).toInt ∧ (if ((20 : Int32) < (I0 5)) then (20 : Int32) else (I0 5)).toInt ≤ 20 from ⟨by omega, by omega⟩), trivial⟩
set_option maxHeartbeats 4000000 in
theorem tt_fX8_keptDay {N : Nat} (hN : 3000000000 ≤ N) (I0 : Nat → Int32) (M0 : Nat → Nat → Int32) (x1 : Int32) (k_I0 : KX8 I0 M0) : wq (fX8_keptDay N I0 M0 x1) (fun r => True) := by
  unfold fX8_keptDay
  have b_10669 := i32b x1
  have l_0 := il_0
  refine wq_lt (fun hc_10670 => ?_) (fun hc_10671 => ?_)
  · have l_m1 := il_m1
    exact wq_s trivial
  · have l_20 := il_20
    refine wq_le (fun hc_10672 => ?_) (fun hc_10673 => ?_)
    · have l_m1 := il_m1
      exact wq_s trivial
    · refine wq_in (n := 20) ⟨by omega, by omega⟩ ?_
      exact wq_s trivial
set_option maxHeartbeats 4000000 in
theorem tt_fX9_hasRoom {N : Nat} (hN : 3000000000 ≤ N) (I0 : Nat → Int32) (M0 : Nat → Nat → Int32) (k_I0 : KX9 I0 M0) : wq (fX9_hasRoom N I0 M0) (fun r => (0 ≤ r.toInt ∧ r.toInt ≤ 1) ∧ True) := by
  unfold fX9_hasRoom
  have l_580 := il_580
  have t_10692 := KX9.i0 k_I0
  refine wq_lt (fun hc_10693 => ?_) (fun hc_10694 => ?_)
  · have l_0 := il_0
    exact wq_s ⟨(show 0 ≤ (0 : Int32).toInt ∧ (0 : Int32).toInt ≤ 1 from ⟨by omega, by omega⟩), trivial⟩
  · have l_1 := il_1
    exact wq_s ⟨(show 0 ≤ (1 : Int32).toInt ∧ (1 : Int32).toInt ≤ 1 from ⟨by omega, by omega⟩), trivial⟩
set_option maxHeartbeats 4000000 in
theorem tt_fX9_put_L3 {N : Nat} (hN : 3000000000 ≤ N) (x1 : Int32)   : ∀ (fu : Nat) (I0_l3 : (Nat → Int32)) (M0_l3 : (Nat → Nat → Int32)) (y3_2 : Int32), (-8 ≤ y3_2.toInt ∧ y3_2.toInt ≤ 24) → (KX9 I0_l3 M0_l3) → (y3_2.toInt - -8) < (fu : Int) → wq (fX9_put_L3 N x1 fu I0_l3 M0_l3 y3_2) (fun r => KX9 r.1 r.2 ∧ True) := by
  intro fu
  induction fu with
  | zero => intro I0_l3 M0_l3 y3_2 h_y3_2 k_I0_l3 hm; exfalso; omega
  | succ fu ih =>
    intro I0_l3 M0_l3 y3_2 h_y3_2 k_I0_l3 hm
    rw [fX9_put_L3.eq_2]
    have l_0 := il_0
    refine wq_lt (fun hc_10794 => ?_) (fun hc_10795 => ?_)
    · exact wq_s ⟨k_I0_l3, trivial⟩
    · have l_600 := il_600
      have t_10796 := KX9.i0 k_I0_l3
      refine wq_le (fun hc_10797 => ?_) (fun hc_10798 => ?_)
      · exact wq_s ⟨k_I0_l3, trivial⟩
      · refine wq_in (n := 600) ⟨by omega, by omega⟩ ?_
        refine wq_v (fun M0_1_q10799 h_M0_1_q10799 => ?_)
        have k_M0_1_q10799 : KX9 I0_l3 M0_1_q10799 := by rw [h_M0_1_q10799]; exact KX9.sm0 k_I0_l3
        refine wq_v (fun I0_2_q10800 h_I0_2_q10800 => ?_)
        have l_1 := il_1
        have t_10801 := ia_add (I0_l3 0) (1 : Int32) (by omega) (by omega)
        have k_I0_2_q10800 : KX9 I0_2_q10800 M0_1_q10799 := by rw [h_I0_2_q10800]; exact KX9.si0 k_M0_1_q10799 ⟨by omega, by omega⟩
        have l_m8 := il_m8
        have t_10803 := ia_add y3_2 ((-8) : Int32) (by omega) (by omega)
        refine wq_v (fun v3_q10802 h_v3_q10802 => ?_)
        have t_v3_q10802 := congrArg Int32.toInt h_v3_q10802
        exact ih I0_2_q10800 M0_1_q10799 v3_q10802 ⟨by omega, by omega⟩ k_I0_2_q10800 (by omega)
set_option maxHeartbeats 4000000 in
theorem tt_fX9_put {N : Nat} (hN : 3000000000 ≤ N) (I0 : Nat → Int32) (M0 : Nat → Nat → Int32) (x1 : Int32) (k_I0 : KX9 I0 M0) : wq (fX9_put N I0 M0 x1) (fun r => KX9 r.1 r.2 ∧ True) := by
  unfold fX9_put
  have b_10804 := i32b x1
  have l_24 := il_24
  exact tt_fX9_put_L3 hN x1 N I0 M0 (24 : Int32) ⟨by omega, by omega⟩ k_I0 (by omega)
set_option maxHeartbeats 4000000 in
theorem tt_fX9_isLetter {N : Nat} (hN : 3000000000 ≤ N) (x0 : Int32)  : wq (fX9_isLetter N x0) (fun r => (0 ≤ r.toInt ∧ r.toInt ≤ 1) ∧ True) := by
  unfold fX9_isLetter
  have b_10835 := i32b x0
  have l_97 := il_97
  refine wq_lt (fun hc_10836 => ?_) (fun hc_10837 => ?_)
  · have l_0 := il_0
    exact wq_s ⟨(show 0 ≤ (0 : Int32).toInt ∧ (0 : Int32).toInt ≤ 1 from ⟨by omega, by omega⟩), trivial⟩
  · have l_122 := il_122
    refine wq_lt (fun hc_10838 => ?_) (fun hc_10839 => ?_)
    · have l_0 := il_0
      exact wq_s ⟨(show 0 ≤ (0 : Int32).toInt ∧ (0 : Int32).toInt ≤ 1 from ⟨by omega, by omega⟩), trivial⟩
    · have l_1 := il_1
      exact wq_s ⟨(show 0 ≤ (1 : Int32).toInt ∧ (1 : Int32).toInt ≤ 1 from ⟨by omega, by omega⟩), trivial⟩
set_option maxHeartbeats 4000000 in
theorem tt_fX9_isDigit {N : Nat} (hN : 3000000000 ≤ N) (x0 : Int32)  : wq (fX9_isDigit N x0) (fun r => (0 ≤ r.toInt ∧ r.toInt ≤ 1) ∧ True) := by
  unfold fX9_isDigit
  have b_10870 := i32b x0
  have l_48 := il_48
  refine wq_lt (fun hc_10871 => ?_) (fun hc_10872 => ?_)
  · have l_0 := il_0
    exact wq_s ⟨(show 0 ≤ (0 : Int32).toInt ∧ (0 : Int32).toInt ≤ 1 from ⟨by omega, by omega⟩), trivial⟩
  · have l_57 := il_57
    refine wq_lt (fun hc_10873 => ?_) (fun hc_10874 => ?_)
    · have l_0 := il_0
      exact wq_s ⟨(show 0 ≤ (0 : Int32).toInt ∧ (0 : Int32).toInt ≤ 1 from ⟨by omega, by omega⟩), trivial⟩
    · have l_1 := il_1
      exact wq_s ⟨(show 0 ≤ (1 : Int32).toInt ∧ (1 : Int32).toInt ≤ 1 from ⟨by omega, by omega⟩), trivial⟩
set_option maxHeartbeats 4000000 in
theorem tt_fX9_isBlank {N : Nat} (hN : 3000000000 ≤ N) (x0 : Int32)  : wq (fX9_isBlank N x0) (fun r => (0 ≤ r.toInt ∧ r.toInt ≤ 1) ∧ True) := by
  unfold fX9_isBlank
  have b_10905 := i32b x0
  have l_32 := il_32
  refine wq_eq (fun hc_10906 => ?_) (fun hc_10907 => ?_)
  · have l_1 := il_1
    exact wq_s ⟨(show 0 ≤ (1 : Int32).toInt ∧ (1 : Int32).toInt ≤ 1 from ⟨by omega, by omega⟩), trivial⟩
  · have l_10 := il_10
    refine wq_eq (fun hc_10908 => ?_) (fun hc_10909 => ?_)
    · have l_1 := il_1
      exact wq_s ⟨(show 0 ≤ (1 : Int32).toInt ∧ (1 : Int32).toInt ≤ 1 from ⟨by omega, by omega⟩), trivial⟩
    · have l_0 := il_0
      exact wq_s ⟨(show 0 ≤ (0 : Int32).toInt ∧ (0 : Int32).toInt ≤ 1 from ⟨by omega, by omega⟩), trivial⟩
set_option maxHeartbeats 4000000 in
theorem tt_fX9_step_L150 {N : Nat} (hN : 3000000000 ≤ N)    : ∀ (fu : Nat) (I0_l150 : (Nat → Int32)) (M0_l150 : (Nat → Nat → Int32)), (KX9 I0_l150 M0_l150) → (600 - (I0_l150 3).toInt) < (fu : Int) → wq (fX9_step_L150 N fu I0_l150 M0_l150) (fun r => KX9 r.1 r.2 ∧ True) := by
  intro fu
  induction fu with
  | zero => intro I0_l150 M0_l150 k_I0_l150 hm; have hz0 := KX9.i3 k_I0_l150; exfalso; omega
  | succ fu ih =>
    intro I0_l150 M0_l150 k_I0_l150 hm
    rw [fX9_step_L150.eq_2]
    have t_11585 := KX9.i1 k_I0_l150
    have t_11586 := KX9.i3 k_I0_l150
    refine wq_le (fun hc_11587 => ?_) (fun hc_11588 => ?_)
    · exact wq_s ⟨k_I0_l150, trivial⟩
    · refine wq_in (n := 600) ⟨by omega, by omega⟩ ?_
      refine wq_b (tt_fX9_isDigit hN (M0_l150 0 (I0_l150 3).toNatClampNeg)) (fun r10_q11589 h_r10_q11589 => ?_)
      obtain ⟨h_r10_q11589_0, -⟩ := h_r10_q11589
      have l_0 := il_0
      refine wq_eq (fun hc_11590 => ?_) (fun hc_11591 => ?_)
      · exact wq_s ⟨k_I0_l150, trivial⟩
      · have l_7 := il_7
        have t_11592 := KX9.i2 k_I0_l150
        have t_11593 := ia_sub (I0_l150 3) (I0_l150 2) (by omega) (by omega)
        refine wq_le (fun hc_11594 => ?_) (fun hc_11595 => ?_)
        · unfold fX9_step_J218
          refine wq_v (fun I0_8_q11596 h_I0_8_q11596 => ?_)
          have k_I0_8_q11596 : KX9 I0_8_q11596 M0_l150 := by rw [h_I0_8_q11596]; exact KX9.si5 k_I0_l150
          have tr_11597 : (I0_8_q11596 1).toInt = (I0_l150 1).toInt := by rw [h_I0_8_q11596]; rfl
          have tr_11598 : (I0_8_q11596 3).toInt = (I0_l150 3).toInt := by rw [h_I0_8_q11596]; rfl
          refine wq_v (fun I0_9_q11599 h_I0_9_q11599 => ?_)
          have t_11600 : (I0_8_q11596 3).toInt = (I0_l150 3).toInt := by rw [h_I0_8_q11596]; rfl
          have l_1 := il_1
          have t_11601 := ia_add (I0_8_q11596 3) (1 : Int32) (by omega) (by omega)
          have k_I0_9_q11599 : KX9 I0_9_q11599 M0_l150 := by rw [h_I0_9_q11599]; exact KX9.si3 k_I0_8_q11596 ⟨by omega, by omega⟩
          have tr_11602 : (I0_9_q11599 1).toInt = (I0_8_q11596 1).toInt := by rw [h_I0_9_q11599]; rfl
          have tr_11603 : (I0_9_q11599 3).toInt = ((I0_8_q11596 3) + (1 : Int32)).toInt := by rw [h_I0_9_q11599]; rfl
          have t_11604 := KX9.i3 k_I0_9_q11599
          exact ih I0_9_q11599 M0_l150 k_I0_9_q11599 (by omega)
        · refine wq_in (n := 600) ⟨by omega, by omega⟩ ?_
          unfold fX9_step_J218
          refine wq_v (fun I0_8_q11605 h_I0_8_q11605 => ?_)
          have k_I0_8_q11605 : KX9 I0_8_q11605 M0_l150 := by rw [h_I0_8_q11605]; exact KX9.si5 k_I0_l150
          have tr_11606 : (I0_8_q11605 1).toInt = (I0_l150 1).toInt := by rw [h_I0_8_q11605]; rfl
          have tr_11607 : (I0_8_q11605 3).toInt = (I0_l150 3).toInt := by rw [h_I0_8_q11605]; rfl
          refine wq_v (fun I0_9_q11608 h_I0_9_q11608 => ?_)
          have t_11609 : (I0_8_q11605 3).toInt = (I0_l150 3).toInt := by rw [h_I0_8_q11605]; rfl
          have l_1 := il_1
          have t_11610 := ia_add (I0_8_q11605 3) (1 : Int32) (by omega) (by omega)
          have k_I0_9_q11608 : KX9 I0_9_q11608 M0_l150 := by rw [h_I0_9_q11608]; exact KX9.si3 k_I0_8_q11605 ⟨by omega, by omega⟩
          have tr_11611 : (I0_9_q11608 1).toInt = (I0_8_q11605 1).toInt := by rw [h_I0_9_q11608]; rfl
          have tr_11612 : (I0_9_q11608 3).toInt = ((I0_8_q11605 3) + (1 : Int32)).toInt := by rw [h_I0_9_q11608]; rfl
          have t_11613 := KX9.i3 k_I0_9_q11608
          exact ih I0_9_q11608 M0_l150 k_I0_9_q11608 (by omega)
set_option maxHeartbeats 4000000 in
theorem tt_fX9_step_L86 {N : Nat} (hN : 3000000000 ≤ N)    : ∀ (fu : Nat) (I0_l86 : (Nat → Int32)) (M0_l86 : (Nat → Nat → Int32)), (KX9 I0_l86 M0_l86) → (600 - (I0_l86 3).toInt) < (fu : Int) → wq (fX9_step_L86 N fu I0_l86 M0_l86) (fun r => KX9 r.1 r.2 ∧ True) := by
  intro fu
  induction fu with
  | zero => intro I0_l86 M0_l86 k_I0_l86 hm; have hz0 := KX9.i3 k_I0_l86; exfalso; omega
  | succ fu ih =>
    intro I0_l86 M0_l86 k_I0_l86 hm
    rw [fX9_step_L86.eq_2]
    have t_11614 := KX9.i1 k_I0_l86
    have t_11615 := KX9.i3 k_I0_l86
    refine wq_le (fun hc_11616 => ?_) (fun hc_11617 => ?_)
    · exact wq_s ⟨k_I0_l86, trivial⟩
    · refine wq_in (n := 600) ⟨by omega, by omega⟩ ?_
      refine wq_b (tt_fX9_isLetter hN (M0_l86 0 (I0_l86 3).toNatClampNeg)) (fun r12_q11618 h_r12_q11618 => ?_)
      obtain ⟨h_r12_q11618_0, -⟩ := h_r12_q11618
      have l_0 := il_0
      refine wq_eq (fun hc_11619 => ?_) (fun hc_11620 => ?_)
      · exact wq_s ⟨k_I0_l86, trivial⟩
      · refine wq_v (fun I0_13_q11621 h_I0_13_q11621 => ?_)
        have l_1 := il_1
        have t_11622 := ia_add (I0_l86 3) (1 : Int32) (by omega) (by omega)
        have k_I0_13_q11621 : KX9 I0_13_q11621 M0_l86 := by rw [h_I0_13_q11621]; exact KX9.si3 k_I0_l86 ⟨by omega, by omega⟩
        have tr_11623 : (I0_13_q11621 1).toInt = (I0_l86 1).toInt := by rw [h_I0_13_q11621]; rfl
        have tr_11624 : (I0_13_q11621 3).toInt = ((I0_l86 3) + (1 : Int32)).toInt := by rw [h_I0_13_q11621]; rfl
        have t_11625 := KX9.i3 k_I0_13_q11621
        exact ih I0_13_q11621 M0_l86 k_I0_13_q11621 (by omega)
set_option maxHeartbeats 4000000 in
theorem tt_fX9_step_L0 {N : Nat} (hN : 3000000000 ≤ N)    : ∀ (fu : Nat) (I0_l0 : (Nat → Int32)) (M0_l0 : (Nat → Nat → Int32)), (KX9 I0_l0 M0_l0) → (600 - (I0_l0 3).toInt) < (fu : Int) → wq (fX9_step_L0 N fu I0_l0 M0_l0) (fun r => KX9 r.1 r.2 ∧ True) := by
  intro fu
  induction fu with
  | zero => intro I0_l0 M0_l0 k_I0_l0 hm; have hz0 := KX9.i3 k_I0_l0; exfalso; omega
  | succ fu ih =>
    intro I0_l0 M0_l0 k_I0_l0 hm
    rw [fX9_step_L0.eq_2]
    have t_11626 := KX9.i1 k_I0_l0
    have t_11627 := KX9.i3 k_I0_l0
    refine wq_le (fun hc_11628 => ?_) (fun hc_11629 => ?_)
    · unfold fX9_step_J39
      refine wq_v (fun I0_3_q11630 h_I0_3_q11630 => ?_)
      have k_I0_3_q11630 : KX9 I0_3_q11630 M0_l0 := by rw [h_I0_3_q11630]; exact KX9.si2 k_I0_l0 ⟨by omega, by omega⟩
      have tr_11631 : (I0_3_q11630 1).toInt = (I0_l0 1).toInt := by rw [h_I0_3_q11630]; rfl
      have tr_11632 : (I0_3_q11630 3).toInt = (I0_l0 3).toInt := by rw [h_I0_3_q11630]; rfl
      have t_11633 : (I0_3_q11630 3).toInt = (I0_l0 3).toInt := by rw [h_I0_3_q11630]; rfl
      have t_11634 : (I0_3_q11630 1).toInt = (I0_l0 1).toInt := by rw [h_I0_3_q11630]; rfl
      refine wq_lt (fun hc_11635 => ?_) (fun hc_11636 => ?_)
      · refine wq_in (n := 600) ⟨by omega, by omega⟩ ?_
        refine wq_b (tt_fX9_isLetter hN (M0_l0 0 (I0_3_q11630 3).toNatClampNeg)) (fun r4_q11637 h_r4_q11637 => ?_)
        obtain ⟨h_r4_q11637_0, -⟩ := h_r4_q11637
        have l_0 := il_0
        refine wq_eq (fun hc_11638 => ?_) (fun hc_11639 => ?_)
        · refine wq_in (n := 600) ⟨by omega, by omega⟩ ?_
          refine wq_b (tt_fX9_isDigit hN (M0_l0 0 (I0_3_q11630 3).toNatClampNeg)) (fun r5_q11640 h_r5_q11640 => ?_)
          obtain ⟨h_r5_q11640_0, -⟩ := h_r5_q11640
          refine wq_eq (fun hc_11641 => ?_) (fun hc_11642 => ?_)
          · refine wq_in (n := 600) ⟨by omega, by omega⟩ ?_
            have l_59 := il_59
            refine wq_eq (fun hc_11643 => ?_) (fun hc_11644 => ?_)
            · unfold fX9_step_J254
              refine wq_v (fun I0_1_q11645 h_I0_1_q11645 => ?_)
              have k_I0_1_q11645 : KX9 I0_1_q11645 M0_l0 := by rw [h_I0_1_q11645]; exact KX9.si4 k_I0_3_q11630
              have tr_11646 : (I0_1_q11645 1).toInt = (I0_3_q11630 1).toInt := by rw [h_I0_1_q11645]; rfl
              have tr_11647 : (I0_1_q11645 3).toInt = (I0_3_q11630 3).toInt := by rw [h_I0_1_q11645]; rfl
              refine wq_v (fun I0_2_q11648 h_I0_2_q11648 => ?_)
              have t_11649 : (I0_1_q11645 3).toInt = (I0_3_q11630 3).toInt := by rw [h_I0_1_q11645]; rfl
              have l_1 := il_1
              have t_11650 := ia_add (I0_1_q11645 3) (1 : Int32) (by omega) (by omega)
              have k_I0_2_q11648 : KX9 I0_2_q11648 M0_l0 := by rw [h_I0_2_q11648]; exact KX9.si3 k_I0_1_q11645 ⟨by omega, by omega⟩
              have tr_11651 : (I0_2_q11648 1).toInt = (I0_1_q11645 1).toInt := by rw [h_I0_2_q11648]; rfl
              have tr_11652 : (I0_2_q11648 3).toInt = ((I0_1_q11645 3) + (1 : Int32)).toInt := by rw [h_I0_2_q11648]; rfl
              exact wq_s ⟨k_I0_2_q11648, trivial⟩
            · unfold fX9_step_J254
              refine wq_v (fun I0_1_q11653 h_I0_1_q11653 => ?_)
              have k_I0_1_q11653 : KX9 I0_1_q11653 M0_l0 := by rw [h_I0_1_q11653]; exact KX9.si4 k_I0_3_q11630
              have tr_11654 : (I0_1_q11653 1).toInt = (I0_3_q11630 1).toInt := by rw [h_I0_1_q11653]; rfl
              have tr_11655 : (I0_1_q11653 3).toInt = (I0_3_q11630 3).toInt := by rw [h_I0_1_q11653]; rfl
              refine wq_v (fun I0_2_q11656 h_I0_2_q11656 => ?_)
              have t_11657 : (I0_1_q11653 3).toInt = (I0_3_q11630 3).toInt := by rw [h_I0_1_q11653]; rfl
              have l_1 := il_1
              have t_11658 := ia_add (I0_1_q11653 3) (1 : Int32) (by omega) (by omega)
              have k_I0_2_q11656 : KX9 I0_2_q11656 M0_l0 := by rw [h_I0_2_q11656]; exact KX9.si3 k_I0_1_q11653 ⟨by omega, by omega⟩
              have tr_11659 : (I0_2_q11656 1).toInt = (I0_1_q11653 1).toInt := by rw [h_I0_2_q11656]; rfl
              have tr_11660 : (I0_2_q11656 3).toInt = ((I0_1_q11653 3) + (1 : Int32)).toInt := by rw [h_I0_2_q11656]; rfl
              exact wq_s ⟨k_I0_2_q11656, trivial⟩
          · refine wq_v (fun I0_6_q11661 h_I0_6_q11661 => ?_)
            have k_I0_6_q11661 : KX9 I0_6_q11661 M0_l0 := by rw [h_I0_6_q11661]; exact KX9.si4 k_I0_3_q11630
            have tr_11662 : (I0_6_q11661 1).toInt = (I0_3_q11630 1).toInt := by rw [h_I0_6_q11661]; rfl
            have tr_11663 : (I0_6_q11661 3).toInt = (I0_3_q11630 3).toInt := by rw [h_I0_6_q11661]; rfl
            refine wq_v (fun I0_7_q11664 h_I0_7_q11664 => ?_)
            have k_I0_7_q11664 : KX9 I0_7_q11664 M0_l0 := by rw [h_I0_7_q11664]; exact KX9.si5 k_I0_6_q11661
            have tr_11665 : (I0_7_q11664 1).toInt = (I0_6_q11661 1).toInt := by rw [h_I0_7_q11664]; rfl
            have tr_11666 : (I0_7_q11664 3).toInt = (I0_6_q11661 3).toInt := by rw [h_I0_7_q11664]; rfl
            have t_11667 := KX9.i3 k_I0_7_q11664
            exact tt_fX9_step_L150 hN N I0_7_q11664 M0_l0 k_I0_7_q11664 (by omega)
        · refine wq_v (fun I0_11_q11668 h_I0_11_q11668 => ?_)
          have k_I0_11_q11668 : KX9 I0_11_q11668 M0_l0 := by rw [h_I0_11_q11668]; exact KX9.si4 k_I0_3_q11630
          have tr_11669 : (I0_11_q11668 1).toInt = (I0_3_q11630 1).toInt := by rw [h_I0_11_q11668]; rfl
          have tr_11670 : (I0_11_q11668 3).toInt = (I0_3_q11630 3).toInt := by rw [h_I0_11_q11668]; rfl
          have t_11671 := KX9.i3 k_I0_11_q11668
          exact tt_fX9_step_L86 hN N I0_11_q11668 M0_l0 k_I0_11_q11668 (by omega)
      · refine wq_v (fun I0_14_q11672 h_I0_14_q11672 => ?_)
        have k_I0_14_q11672 : KX9 I0_14_q11672 M0_l0 := by rw [h_I0_14_q11672]; exact KX9.si4 k_I0_3_q11630
        have tr_11673 : (I0_14_q11672 1).toInt = (I0_3_q11630 1).toInt := by rw [h_I0_14_q11672]; rfl
        have tr_11674 : (I0_14_q11672 3).toInt = (I0_3_q11630 3).toInt := by rw [h_I0_14_q11672]; rfl
        exact wq_s ⟨k_I0_14_q11672, trivial⟩
    · refine wq_in (n := 600) ⟨by omega, by omega⟩ ?_
      refine wq_b (tt_fX9_isBlank hN (M0_l0 0 (I0_l0 3).toNatClampNeg)) (fun r15_q11675 h_r15_q11675 => ?_)
      obtain ⟨h_r15_q11675_0, -⟩ := h_r15_q11675
      have l_0 := il_0
      refine wq_eq (fun hc_11676 => ?_) (fun hc_11677 => ?_)
      · unfold fX9_step_J39
        refine wq_v (fun I0_3_q11678 h_I0_3_q11678 => ?_)
        have k_I0_3_q11678 : KX9 I0_3_q11678 M0_l0 := by rw [h_I0_3_q11678]; exact KX9.si2 k_I0_l0 ⟨by omega, by omega⟩
        have tr_11679 : (I0_3_q11678 1).toInt = (I0_l0 1).toInt := by rw [h_I0_3_q11678]; rfl
        have tr_11680 : (I0_3_q11678 3).toInt = (I0_l0 3).toInt := by rw [h_I0_3_q11678]; rfl
        have t_11681 : (I0_3_q11678 3).toInt = (I0_l0 3).toInt := by rw [h_I0_3_q11678]; rfl
        have t_11682 : (I0_3_q11678 1).toInt = (I0_l0 1).toInt := by rw [h_I0_3_q11678]; rfl
        refine wq_lt (fun hc_11683 => ?_) (fun hc_11684 => ?_)
        · refine wq_in (n := 600) ⟨by omega, by omega⟩ ?_
          refine wq_b (tt_fX9_isLetter hN (M0_l0 0 (I0_3_q11678 3).toNatClampNeg)) (fun r4_q11685 h_r4_q11685 => ?_)
          obtain ⟨h_r4_q11685_0, -⟩ := h_r4_q11685
          refine wq_eq (fun hc_11686 => ?_) (fun hc_11687 => ?_)
          · refine wq_in (n := 600) ⟨by omega, by omega⟩ ?_
            refine wq_b (tt_fX9_isDigit hN (M0_l0 0 (I0_3_q11678 3).toNatClampNeg)) (fun r5_q11688 h_r5_q11688 => ?_)
            obtain ⟨h_r5_q11688_0, -⟩ := h_r5_q11688
            refine wq_eq (fun hc_11689 => ?_) (fun hc_11690 => ?_)
            · refine wq_in (n := 600) ⟨by omega, by omega⟩ ?_
              have l_59 := il_59
              refine wq_eq (fun hc_11691 => ?_) (fun hc_11692 => ?_)
              · unfold fX9_step_J254
                refine wq_v (fun I0_1_q11693 h_I0_1_q11693 => ?_)
                have k_I0_1_q11693 : KX9 I0_1_q11693 M0_l0 := by rw [h_I0_1_q11693]; exact KX9.si4 k_I0_3_q11678
                have tr_11694 : (I0_1_q11693 1).toInt = (I0_3_q11678 1).toInt := by rw [h_I0_1_q11693]; rfl
                have tr_11695 : (I0_1_q11693 3).toInt = (I0_3_q11678 3).toInt := by rw [h_I0_1_q11693]; rfl
                refine wq_v (fun I0_2_q11696 h_I0_2_q11696 => ?_)
                have t_11697 : (I0_1_q11693 3).toInt = (I0_3_q11678 3).toInt := by rw [h_I0_1_q11693]; rfl
                have l_1 := il_1
                have t_11698 := ia_add (I0_1_q11693 3) (1 : Int32) (by omega) (by omega)
                have k_I0_2_q11696 : KX9 I0_2_q11696 M0_l0 := by rw [h_I0_2_q11696]; exact KX9.si3 k_I0_1_q11693 ⟨by omega, by omega⟩
                have tr_11699 : (I0_2_q11696 1).toInt = (I0_1_q11693 1).toInt := by rw [h_I0_2_q11696]; rfl
                have tr_11700 : (I0_2_q11696 3).toInt = ((I0_1_q11693 3) + (1 : Int32)).toInt := by rw [h_I0_2_q11696]; rfl
                exact wq_s ⟨k_I0_2_q11696, trivial⟩
              · unfold fX9_step_J254
                refine wq_v (fun I0_1_q11701 h_I0_1_q11701 => ?_)
                have k_I0_1_q11701 : KX9 I0_1_q11701 M0_l0 := by rw [h_I0_1_q11701]; exact KX9.si4 k_I0_3_q11678
                have tr_11702 : (I0_1_q11701 1).toInt = (I0_3_q11678 1).toInt := by rw [h_I0_1_q11701]; rfl
                have tr_11703 : (I0_1_q11701 3).toInt = (I0_3_q11678 3).toInt := by rw [h_I0_1_q11701]; rfl
                refine wq_v (fun I0_2_q11704 h_I0_2_q11704 => ?_)
                have t_11705 : (I0_1_q11701 3).toInt = (I0_3_q11678 3).toInt := by rw [h_I0_1_q11701]; rfl
                have l_1 := il_1
                have t_11706 := ia_add (I0_1_q11701 3) (1 : Int32) (by omega) (by omega)
                have k_I0_2_q11704 : KX9 I0_2_q11704 M0_l0 := by rw [h_I0_2_q11704]; exact KX9.si3 k_I0_1_q11701 ⟨by omega, by omega⟩
                have tr_11707 : (I0_2_q11704 1).toInt = (I0_1_q11701 1).toInt := by rw [h_I0_2_q11704]; rfl
                have tr_11708 : (I0_2_q11704 3).toInt = ((I0_1_q11701 3) + (1 : Int32)).toInt := by rw [h_I0_2_q11704]; rfl
                exact wq_s ⟨k_I0_2_q11704, trivial⟩
            · refine wq_v (fun I0_6_q11709 h_I0_6_q11709 => ?_)
              have k_I0_6_q11709 : KX9 I0_6_q11709 M0_l0 := by rw [h_I0_6_q11709]; exact KX9.si4 k_I0_3_q11678
              have tr_11710 : (I0_6_q11709 1).toInt = (I0_3_q11678 1).toInt := by rw [h_I0_6_q11709]; rfl
              have tr_11711 : (I0_6_q11709 3).toInt = (I0_3_q11678 3).toInt := by rw [h_I0_6_q11709]; rfl
              refine wq_v (fun I0_7_q11712 h_I0_7_q11712 => ?_)
              have k_I0_7_q11712 : KX9 I0_7_q11712 M0_l0 := by rw [h_I0_7_q11712]; exact KX9.si5 k_I0_6_q11709
              have tr_11713 : (I0_7_q11712 1).toInt = (I0_6_q11709 1).toInt := by rw [h_I0_7_q11712]; rfl
              have tr_11714 : (I0_7_q11712 3).toInt = (I0_6_q11709 3).toInt := by rw [h_I0_7_q11712]; rfl
              have t_11715 := KX9.i3 k_I0_7_q11712
              exact tt_fX9_step_L150 hN N I0_7_q11712 M0_l0 k_I0_7_q11712 (by omega)
          · refine wq_v (fun I0_11_q11716 h_I0_11_q11716 => ?_)
            have k_I0_11_q11716 : KX9 I0_11_q11716 M0_l0 := by rw [h_I0_11_q11716]; exact KX9.si4 k_I0_3_q11678
            have tr_11717 : (I0_11_q11716 1).toInt = (I0_3_q11678 1).toInt := by rw [h_I0_11_q11716]; rfl
            have tr_11718 : (I0_11_q11716 3).toInt = (I0_3_q11678 3).toInt := by rw [h_I0_11_q11716]; rfl
            have t_11719 := KX9.i3 k_I0_11_q11716
            exact tt_fX9_step_L86 hN N I0_11_q11716 M0_l0 k_I0_11_q11716 (by omega)
        · refine wq_v (fun I0_14_q11720 h_I0_14_q11720 => ?_)
          have k_I0_14_q11720 : KX9 I0_14_q11720 M0_l0 := by rw [h_I0_14_q11720]; exact KX9.si4 k_I0_3_q11678
          have tr_11721 : (I0_14_q11720 1).toInt = (I0_3_q11678 1).toInt := by rw [h_I0_14_q11720]; rfl
          have tr_11722 : (I0_14_q11720 3).toInt = (I0_3_q11678 3).toInt := by rw [h_I0_14_q11720]; rfl
          exact wq_s ⟨k_I0_14_q11720, trivial⟩
      · refine wq_v (fun I0_16_q11723 h_I0_16_q11723 => ?_)
        have l_1 := il_1
        have t_11724 := ia_add (I0_l0 3) (1 : Int32) (by omega) (by omega)
        have k_I0_16_q11723 : KX9 I0_16_q11723 M0_l0 := by rw [h_I0_16_q11723]; exact KX9.si3 k_I0_l0 ⟨by omega, by omega⟩
        have tr_11725 : (I0_16_q11723 1).toInt = (I0_l0 1).toInt := by rw [h_I0_16_q11723]; rfl
        have tr_11726 : (I0_16_q11723 3).toInt = ((I0_l0 3) + (1 : Int32)).toInt := by rw [h_I0_16_q11723]; rfl
        have t_11727 := KX9.i3 k_I0_16_q11723
        exact ih I0_16_q11723 M0_l0 k_I0_16_q11723 (by omega)
set_option maxHeartbeats 4000000 in
theorem tt_fX9_step {N : Nat} (hN : 3000000000 ≤ N) (I0 : Nat → Int32) (M0 : Nat → Nat → Int32) (k_I0 : KX9 I0 M0) : wq (fX9_step N I0 M0) (fun r => KX9 r.1 r.2 ∧ True) := by
  unfold fX9_step
  have t_11728 := KX9.i3 k_I0
  exact tt_fX9_step_L0 hN N I0 M0 k_I0 (by omega)
set_option maxHeartbeats 4000000 in
theorem tt_fX9_begin {N : Nat} (hN : 3000000000 ≤ N) (I0 : Nat → Int32) (M0 : Nat → Nat → Int32) (x1 : Int32) (h_x1 : 0 ≤ x1.toInt ∧ x1.toInt ≤ 600) (k_I0 : KX9 I0 M0) : wq (fX9_begin N I0 M0 x1) (fun r => KX9 r.1 r.2 ∧ True) := by
  unfold fX9_begin
  refine wq_v (fun I0_1_q11769 h_I0_1_q11769 => ?_)
  have t_11770 := KX9.i0 k_I0
  have t_11771 := ite_lt (I0 0) x1 (I0 0) x1
  have k_I0_1_q11769 : KX9 I0_1_q11769 M0 := by rw [h_I0_1_q11769]; exact KX9.si1 k_I0 ⟨by omega, by omega⟩
  refine wq_v (fun I0_2_q11772 h_I0_2_q11772 => ?_)
  have l_0 := il_0
  have k_I0_2_q11772 : KX9 I0_2_q11772 M0 := by rw [h_I0_2_q11772]; exact KX9.si0 k_I0_1_q11769 ⟨by omega, by omega⟩
  refine wq_v (fun I0_3_q11773 h_I0_3_q11773 => ?_)
  have k_I0_3_q11773 : KX9 I0_3_q11773 M0 := by rw [h_I0_3_q11773]; exact KX9.si3 k_I0_2_q11772 ⟨by omega, by omega⟩
  refine wq_v (fun I0_4_q11774 h_I0_4_q11774 => ?_)
  have k_I0_4_q11774 : KX9 I0_4_q11774 M0 := by rw [h_I0_4_q11774]; exact KX9.si7 k_I0_3_q11773
  refine wq_v (fun I0_5_q11775 h_I0_5_q11775 => ?_)
  have k_I0_5_q11775 : KX9 I0_5_q11775 M0 := by rw [h_I0_5_q11775]; exact KX9.si8 k_I0_4_q11774
  refine wq_b (tt_fX9_step hN I0_5_q11775 M0 k_I0_5_q11775) (fun r6_q11776 h_r6_q11776 => ?_)
  obtain ⟨h_r6_q11776_0, -⟩ := h_r6_q11776
  exact wq_s ⟨h_r6_q11776_0, trivial⟩
set_option maxHeartbeats 4000000 in
theorem tt_fX9_refuse {N : Nat} (hN : 3000000000 ≤ N) (I0 : Nat → Int32) (M0 : Nat → Nat → Int32) (x1 : Int32) (k_I0 : KX9 I0 M0) : wq (fX9_refuse N I0 M0 x1) (fun r => (0 ≤ r.1.toInt ∧ r.1.toInt ≤ 0) ∧ KX9 r.2.1 r.2.2 ∧ True) := by
  unfold fX9_refuse
  refine wq_v (fun I0_1_q11789 h_I0_1_q11789 => ?_)
  have k_I0_1_q11789 : KX9 I0_1_q11789 M0 := by rw [h_I0_1_q11789]; exact KX9.si7 k_I0
  refine wq_v (fun I0_2_q11790 h_I0_2_q11790 => ?_)
  have k_I0_2_q11790 : KX9 I0_2_q11790 M0 := by rw [h_I0_2_q11790]; exact KX9.si8 k_I0_1_q11789
  have l_0 := il_0
  exact wq_s ⟨(show 0 ≤ (0 : Int32).toInt ∧ (0 : Int32).toInt ≤ 0 from ⟨by omega, by omega⟩), k_I0_2_q11790, trivial⟩
set_option maxHeartbeats 4000000 in
theorem tt_fX9_takeStop {N : Nat} (hN : 3000000000 ≤ N) (I0 : Nat → Int32) (M0 : Nat → Nat → Int32) (k_I0 : KX9 I0 M0) : wq (fX9_takeStop N I0 M0) (fun r => (0 ≤ r.1.toInt ∧ r.1.toInt ≤ 1) ∧ KX9 r.2.1 r.2.2 ∧ True) := by
  unfold fX9_takeStop
  have l_3 := il_3
  refine wq_eq (fun hc_11815 => ?_) (fun hc_11816 => ?_)
  · refine wq_b (tt_fX9_step hN I0 M0 k_I0) (fun r1_q11817 h_r1_q11817 => ?_)
    obtain ⟨h_r1_q11817_0, -⟩ := h_r1_q11817
    have l_1 := il_1
    exact wq_s ⟨(show 0 ≤ (1 : Int32).toInt ∧ (1 : Int32).toInt ≤ 1 from ⟨by omega, by omega⟩), h_r1_q11817_0, trivial⟩
  · have l_1 := il_1
    refine wq_b (tt_fX9_refuse hN I0 M0 (1 : Int32) k_I0) (fun r2_q11818 h_r2_q11818 => ?_)
    obtain ⟨h_r2_q11818_0, h_r2_q11818_1, -⟩ := h_r2_q11818
    refine wq_bz (by omega) ?_
    exact wq_s ⟨(show 0 ≤ r2_q11818.1.toInt ∧ r2_q11818.1.toInt ≤ 1 from ⟨by omega, by omega⟩), h_r2_q11818_1, trivial⟩
set_option maxHeartbeats 4000000 in
theorem tt_fX9_holdsNumber {N : Nat} (hN : 3000000000 ≤ N) (I0 : Nat → Int32) (M0 : Nat → Nat → Int32) (x1 : Int32) (x2 : Int32) (k_I0 : KX9 I0 M0) : wq (fX9_holdsNumber N I0 M0 x1 x2) (fun r => (0 ≤ r.1.toInt ∧ r.1.toInt ≤ 1) ∧ KX9 r.2.1 r.2.2 ∧ True) := by
  unfold fX9_holdsNumber
  have l_2 := il_2
  refine wq_eq (fun hc_11927 => ?_) (fun hc_11928 => ?_)
  · have l_7 := il_7
    have t_11929 := KX9.i3 k_I0
    have t_11930 := KX9.i2 k_I0
    have t_11931 := ia_sub (I0 3) (I0 2) (by omega) (by omega)
    refine wq_lt (fun hc_11932 => ?_) (fun hc_11933 => ?_)
    · refine wq_b (tt_fX9_refuse hN I0 M0 (2 : Int32) k_I0) (fun r1_q11934 h_r1_q11934 => ?_)
      obtain ⟨h_r1_q11934_0, h_r1_q11934_1, -⟩ := h_r1_q11934
      refine wq_bz (by omega) ?_
      exact wq_s ⟨(show 0 ≤ r1_q11934.1.toInt ∧ r1_q11934.1.toInt ≤ 1 from ⟨by omega, by omega⟩), h_r1_q11934_1, trivial⟩
    · have b_11935 := i32b x1
      refine wq_lt (fun hc_11936 => ?_) (fun hc_11937 => ?_)
      · refine wq_b (tt_fX9_refuse hN I0 M0 (2 : Int32) k_I0) (fun r2_q11938 h_r2_q11938 => ?_)
        obtain ⟨h_r2_q11938_0, h_r2_q11938_1, -⟩ := h_r2_q11938
        refine wq_bz (by omega) ?_
        exact wq_s ⟨(show 0 ≤ r2_q11938.1.toInt ∧ r2_q11938.1.toInt ≤ 1 from ⟨by omega, by omega⟩), h_r2_q11938_1, trivial⟩
      · have b_11939 := i32b x2
        refine wq_le (fun hc_11940 => ?_) (fun hc_11941 => ?_)
        · refine wq_v (fun I0_3_q11942 h_I0_3_q11942 => ?_)
          have k_I0_3_q11942 : KX9 I0_3_q11942 M0 := by rw [h_I0_3_q11942]; exact KX9.si6 k_I0
          have l_1 := il_1
          exact wq_s ⟨(show 0 ≤ (1 : Int32).toInt ∧ (1 : Int32).toInt ≤ 1 from ⟨by omega, by omega⟩), k_I0_3_q11942, trivial⟩
        · refine wq_b (tt_fX9_refuse hN I0 M0 (2 : Int32) k_I0) (fun r4_q11943 h_r4_q11943 => ?_)
          obtain ⟨h_r4_q11943_0, h_r4_q11943_1, -⟩ := h_r4_q11943
          refine wq_bz (by omega) ?_
          exact wq_s ⟨(show 0 ≤ r4_q11943.1.toInt ∧ r4_q11943.1.toInt ≤ 1 from ⟨by omega, by omega⟩), h_r4_q11943_1, trivial⟩
  · have l_1 := il_1
    refine wq_b (tt_fX9_refuse hN I0 M0 (1 : Int32) k_I0) (fun r5_q11944 h_r5_q11944 => ?_)
    obtain ⟨h_r5_q11944_0, h_r5_q11944_1, -⟩ := h_r5_q11944
    refine wq_bz (by omega) ?_
    exact wq_s ⟨(show 0 ≤ r5_q11944.1.toInt ∧ r5_q11944.1.toInt ≤ 1 from ⟨by omega, by omega⟩), h_r5_q11944_1, trivial⟩
set_option maxHeartbeats 4000000 in
theorem tt_fX9_takeNumber {N : Nat} (hN : 3000000000 ≤ N) (I0 : Nat → Int32) (M0 : Nat → Nat → Int32) (x1 : Int32) (x2 : Int32) (k_I0 : KX9 I0 M0) : wq (fX9_takeNumber N I0 M0 x1 x2) (fun r => (0 ≤ r.1.toInt ∧ r.1.toInt ≤ 1) ∧ KX9 r.2.1 r.2.2 ∧ True) := by
  unfold fX9_takeNumber
  have b_11981 := i32b x1
  have b_11982 := i32b x2
  refine wq_b (tt_fX9_holdsNumber hN I0 M0 x1 x2 k_I0) (fun r1_q11983 h_r1_q11983 => ?_)
  obtain ⟨h_r1_q11983_0, h_r1_q11983_1, -⟩ := h_r1_q11983
  have l_0 := il_0
  refine wq_eq (fun hc_11984 => ?_) (fun hc_11985 => ?_)
  · exact wq_s ⟨(show 0 ≤ (0 : Int32).toInt ∧ (0 : Int32).toInt ≤ 1 from ⟨by omega, by omega⟩), h_r1_q11983_1, trivial⟩
  · refine wq_b (tt_fX9_step hN r1_q11983.2.1 r1_q11983.2.2 h_r1_q11983_1) (fun r2_q11986 h_r2_q11986 => ?_)
    obtain ⟨h_r2_q11986_0, -⟩ := h_r2_q11986
    have l_1 := il_1
    exact wq_s ⟨(show 0 ≤ (1 : Int32).toInt ∧ (1 : Int32).toInt ≤ 1 from ⟨by omega, by omega⟩), h_r2_q11986_0, trivial⟩
set_option maxHeartbeats 4000000 in
theorem tt_fX10_priceOfEntry {N : Nat} (hN : 3000000000 ≤ N) (I0 : Nat → Int32) (M0 : Nat → Nat → Int32) (x1 : Int32) (x2 : Int32) (x3 : Int32) (h_x2 : -1 ≤ x2.toInt ∧ x2.toInt ≤ 389) (h_x3 : -1 ≤ x3.toInt ∧ x3.toInt ≤ 389) : wq (fX10_priceOfEntry N I0 M0 x1 x2 x3) (fun r => (0 ≤ r.toInt ∧ r.toInt ≤ 4) ∧ True) := by
  unfold fX10_priceOfEntry
  refine wq_eq (fun hc_12059 => ?_) (fun hc_12060 => ?_)
  · have l_0 := il_0
    exact wq_s ⟨(show 0 ≤ (0 : Int32).toInt ∧ (0 : Int32).toInt ≤ 4 from ⟨by omega, by omega⟩), trivial⟩
  · have l_m1 := il_m1
    refine wq_eq (fun hc_12061 => ?_) (fun hc_12062 => ?_)
    · have l_1 := il_1
      exact wq_s ⟨(show 0 ≤ (1 : Int32).toInt ∧ (1 : Int32).toInt ≤ 4 from ⟨by omega, by omega⟩), trivial⟩
    · refine wq_eq (fun hc_12063 => ?_) (fun hc_12064 => ?_)
      · have l_4 := il_4
        exact wq_s ⟨(show 0 ≤ (4 : Int32).toInt ∧ (4 : Int32).toInt ≤ 4 from ⟨by omega, by omega⟩), trivial⟩
      · have b_12065 := i32b x1
        have l_21 := il_21
        refine wq_eq (fun hc_12066 => ?_) (fun hc_12067 => ?_)
        · have l_3 := il_3
          exact wq_s ⟨(show 0 ≤ (3 : Int32).toInt ∧ (3 : Int32).toInt ≤ 4 from ⟨by omega, by omega⟩), trivial⟩
        · refine wq_b (tt_fX4_costBeside hN I0 M0 x3 x2 ⟨by omega, by omega⟩) (fun r1_q12068 h_r1_q12068 => ?_)
          obtain ⟨h_r1_q12068_0, -⟩ := h_r1_q12068
          have l_1 := il_1
          refine wq_eq (fun hc_12069 => ?_) (fun hc_12070 => ?_)
          · exact wq_s ⟨(show 0 ≤ (1 : Int32).toInt ∧ (1 : Int32).toInt ≤ 4 from ⟨by omega, by omega⟩), trivial⟩
          · have l_3 := il_3
            exact wq_s ⟨(show 0 ≤ (3 : Int32).toInt ∧ (3 : Int32).toInt ≤ 4 from ⟨by omega, by omega⟩), trivial⟩
set_option maxHeartbeats 4000000 in
theorem tt_fX10_priceOf_L16 {N : Nat} (hN : 3000000000 ≤ N) (I0 : Nat → Int32) (M0 : Nat → Nat → Int32) (I1 : Nat → Int32) (M1 : Nat → Nat → Int32) (x2 : Int32) (x3 : Int32) (y6_5 : Int32) (g6 : Int32 → Int32 → Option (Int32)) (h_x2 : 0 ≤ x2.toInt ∧ x2.toInt ≤ 5) (h_x3 : 0 ≤ x3.toInt ∧ x3.toInt ≤ 5) (h_y6_5 : 0 ≤ y6_5.toInt ∧ y6_5.toInt ≤ 19) (k_I1 : KX1 I1 M1) (hg6 : ∀ (q0 : Int32) (q1 : Int32), (0 ≤ q1.toInt ∧ q1.toInt ≤ 20) → (y6_5.toInt < q1.toInt) → wq (g6 q0 q1) (fun r => True)) : ∀ (fu : Nat) (y16_4 : Int32) (y16_6 : Int32), (0 ≤ y16_6.toInt ∧ y16_6.toInt ≤ 22) → (22 - y16_6.toInt) < (fu : Int) → wq (fX10_priceOf_L16 N I0 M0 I1 M1 x2 x3 y6_5 g6 fu y16_4 y16_6) (fun r => True) := by
  intro fu
  induction fu with
  | zero => intro y16_4 y16_6 h_y16_6 hm; exfalso; omega
  | succ fu ih =>
    intro y16_4 y16_6 h_y16_6 hm
    rw [fX10_priceOf_L16.eq_2]
    have l_22 := il_22
    refine wq_le (fun hc_12454 => ?_) (fun hc_12455 => ?_)
    · have l_1 := il_1
      have t_12457 := ia_add y6_5 (1 : Int32) (by omega) (by omega)
      refine wq_v (fun v1_q12456 h_v1_q12456 => ?_)
      have t_v1_q12456 := congrArg Int32.toInt h_v1_q12456
      have b_12458 := i32b y16_4
      exact hg6 y16_4 v1_q12456 ⟨by omega, by omega⟩ (by omega)
    · have l_20 := il_20
      have t_12459 := ia_mul (20 : Int32) (20) il_20 x2 (by omega) (by omega)
      have t_12460 := ia_add ((20 : Int32) * x2) y6_5 (by omega) (by omega)
      refine wq_b (tt_fX1_degreeOf hN I1 M1 (((20 : Int32) * x2) + y6_5) y16_6 ⟨by omega, by omega⟩ ⟨by omega, by omega⟩ k_I1) (fun r2_q12461 h_r2_q12461 => ?_)
      obtain ⟨h_r2_q12461_0, h_r2_q12461_1, -⟩ := h_r2_q12461
      have t_12462 := ia_mul (20 : Int32) (20) il_20 x3 (by omega) (by omega)
      have t_12463 := ia_add ((20 : Int32) * x3) y6_5 (by omega) (by omega)
      refine wq_b (tt_fX1_degreeOf hN I1 M1 (((20 : Int32) * x3) + y6_5) y16_6 ⟨by omega, by omega⟩ ⟨by omega, by omega⟩ k_I1) (fun r3_q12464 h_r3_q12464 => ?_)
      obtain ⟨h_r3_q12464_0, h_r3_q12464_1, -⟩ := h_r3_q12464
      refine wq_b (tt_fX10_priceOfEntry hN I0 M0 y16_6 r2_q12461 r3_q12464 ⟨by omega, by omega⟩ ⟨by omega, by omega⟩) (fun r4_q12465 h_r4_q12465 => ?_)
      obtain ⟨h_r4_q12465_0, -⟩ := h_r4_q12465
      have b_12467 := i32b y16_4
      refine wq_v (fun v5_q12466 h_v5_q12466 => ?_)
      have t_v5_q12466 := congrArg Int32.toInt h_v5_q12466
      have l_1 := il_1
      have t_12469 := ia_add y16_6 (1 : Int32) (by omega) (by omega)
      refine wq_v (fun v6_q12468 h_v6_q12468 => ?_)
      have t_v6_q12468 := congrArg Int32.toInt h_v6_q12468
      have b_12470 := i32b v5_q12466
      exact ih v5_q12466 v6_q12468 ⟨by omega, by omega⟩ (by omega)
set_option maxHeartbeats 4000000 in
theorem tt_fX10_priceOf_L6 {N : Nat} (hN : 3000000000 ≤ N) (I0 : Nat → Int32) (M0 : Nat → Nat → Int32) (I1 : Nat → Int32) (M1 : Nat → Nat → Int32) (x2 : Int32) (x3 : Int32) (h_x2 : 0 ≤ x2.toInt ∧ x2.toInt ≤ 5) (h_x3 : 0 ≤ x3.toInt ∧ x3.toInt ≤ 5) (k_I1 : KX1 I1 M1)  : ∀ (fu : Nat) (y6_4 : Int32) (y6_5 : Int32), (0 ≤ y6_5.toInt ∧ y6_5.toInt ≤ 20) → (20 - y6_5.toInt) < (fu : Int) → wq (fX10_priceOf_L6 N I0 M0 I1 M1 x2 x3 fu y6_4 y6_5) (fun r => True) := by
  intro fu
  induction fu with
  | zero => intro y6_4 y6_5 h_y6_5 hm; exfalso; omega
  | succ fu ih =>
    intro y6_4 y6_5 h_y6_5 hm
    rw [fX10_priceOf_L6.eq_2]
    have l_20 := il_20
    refine wq_le (fun hc_12471 => ?_) (fun hc_12472 => ?_)
    · have b_12473 := i32b y6_4
      exact wq_s trivial
    · have b_12474 := i32b y6_4
      have l_0 := il_0
      exact tt_fX10_priceOf_L16 hN I0 M0 I1 M1 x2 x3 y6_5 _ ⟨by omega, by omega⟩ ⟨by omega, by omega⟩ ⟨by omega, by omega⟩ k_I1 (fun q0 q1 hq0 hq1 => ih q0 q1 hq0 (by omega)) N y6_4 (0 : Int32) ⟨by omega, by omega⟩ (by omega)
set_option maxHeartbeats 4000000 in
theorem tt_fX10_priceOf {N : Nat} (hN : 3000000000 ≤ N) (I0 : Nat → Int32) (M0 : Nat → Nat → Int32) (I1 : Nat → Int32) (M1 : Nat → Nat → Int32) (x2 : Int32) (x3 : Int32) (h_x2 : 0 ≤ x2.toInt ∧ x2.toInt ≤ 5) (h_x3 : 0 ≤ x3.toInt ∧ x3.toInt ≤ 5) (k_I1 : KX1 I1 M1) : wq (fX10_priceOf N I0 M0 I1 M1 x2 x3) (fun r => True) := by
  unfold fX10_priceOf
  have l_0 := il_0
  exact tt_fX10_priceOf_L6 hN I0 M0 I1 M1 x2 x3 ⟨by omega, by omega⟩ ⟨by omega, by omega⟩ k_I1 N (0 : Int32) (0 : Int32) ⟨by omega, by omega⟩ (by omega)

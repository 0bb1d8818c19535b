theorem tt_lk (N : Nat) (x1 : Int32) (I0 : Nat → Int32) (M0 : Nat → Nat → Int32) (h0 : 0 ≤ (I0 0).toInt ∧ (I0 0).toInt ≤ 1) (h1 : 0 ≤ (I0 1).toInt ∧ (I0 1).toInt ≤ 119) (h2 : 0 ≤ (I0 2).toInt ∧ (I0 2).toInt ≤ 3) (h3 : 0 ≤ (I0 3).toInt ∧ (I0 3).toInt ≤ 1000000) (h5 : 0 ≤ (I0 5).toInt ∧ (I0 5).toInt ≤ (I0 3).toInt) : wq (fX8_lookAt_J27 N x1 I0 M0) (fun r => (0 ≤ (r.1 0).toInt ∧ (r.1 0).toInt ≤ 1) ∧ (0 ≤ (r.1 1).toInt ∧ (r.1 1).toInt ≤ 119) ∧ (0 ≤ (r.1 2).toInt ∧ (r.1 2).toInt ≤ 3) ∧ r.1 3 = I0 3 ∧ (0 ≤ (r.1 5).toInt ∧ (r.1 5).toInt ≤ (I0 3).toInt + 1)) := by
  have l_1 := il_1
  have l_20 := il_20
  have ta := ia_add (I0 5) (1 : Int32) (by omega) (by omega)
  have hJ : ∀ M : Nat → Nat → Int32, wq (fX8_lookAt_J49 N x1 I0 M) (fun r => (0 ≤ (r.1 0).toInt ∧ (r.1 0).toInt ≤ 1) ∧ (0 ≤ (r.1 1).toInt ∧ (r.1 1).toInt ≤ 119) ∧ (0 ≤ (r.1 2).toInt ∧ (r.1 2).toInt ≤ 3) ∧ r.1 3 = I0 3 ∧ (0 ≤ (r.1 5).toInt ∧ (r.1 5).toInt ≤ (I0 3).toInt + 1)) := by
    intro M
    refine ⟨_, rfl, h0, h1, h2, rfl, ?_⟩
    show 0 ≤ (I0 5 + 1).toInt ∧ (I0 5 + 1).toInt ≤ (I0 3).toInt + 1
    omega
  unfold fX8_lookAt_J27
  refine wq_le (fun hc => ?_) (fun hc => ?_)
  · exact hJ _
  · refine wq_in (n := 20) ⟨by omega, by omega⟩ ?_
    exact wq_v (fun M _ => hJ M)
theorem tt_look (N : Nat) (I0 : Nat → Int32) (M0 : Nat → Nat → Int32) (x1 : Int32) (k : KX8 I0 M0) (h3 : (I0 3).toInt ≤ 1000000) : wq (fX8_lookAt N I0 M0 x1) (fun r => (0 ≤ (r.1 0).toInt ∧ (r.1 0).toInt ≤ 1) ∧ (0 ≤ (r.1 1).toInt ∧ (r.1 1).toInt ≤ 119) ∧ (0 ≤ (r.1 2).toInt ∧ (r.1 2).toInt ≤ 3) ∧ r.1 3 = I0 3 ∧ (0 ≤ (r.1 5).toInt ∧ (r.1 5).toInt ≤ (I0 3).toInt + 1)) := by
  unfold fX8_lookAt
  have h5 := k.i5
  have hm := k.emn
  have h3' := k.i3
  refine wq_le (fun hc => ?_) (fun hc => ?_)
  · refine wq_le (fun hc => ?_) (fun hc => ?_)
    · exact tt_lk N x1 I0 M0 k.i0 k.i1 k.i2 ⟨h3'.1, h3⟩ ⟨h5.1, hm⟩
    · refine wq_v (fun I4 e4 => ?_)
      refine wq_v (fun I5 e5 => ?_)
      subst e4
      have q3 : I5 3 = I0 3 := by rw [e5]; rfl
      have q5 : I5 5 = 0 := by rw [e5]; rfl
      have w := tt_lk N x1 I5 M0 (by rw [e5]; exact k.i0) (by rw [e5]; exact k.i1) (by rw [e5]; exact k.i2) (by rw [q3]; exact ⟨h3'.1, h3⟩) (by rw [q3, q5, il_0]; exact ⟨by decide, h3'.1⟩)
      rw [q3] at w
      exact w
  · exact wq_s ⟨k.i0, k.i1, k.i2, rfl, h5.1, (show (I0 5).toInt ≤ (I0 3).toInt + 1 from by omega)⟩
theorem tt_fX8_goOn_L3 {N : Nat} (hN : 3000000000 ≤ N) (I1 : Nat → Int32) (M1 : Nat → Nat → Int32) (I2 : Nat → Int32) (M2 : Nat → Nat → Int32) (x3 : Int32) (k_I1 : KX5 I1 M1) (k_I2 : KX1 I2 M2) : ∀ (fu : Nat) (I0 : Nat → Int32) (M0 : Nat → Nat → Int32) (y : Int32), KX8 I0 M0 → (0 ≤ y.toInt) → (x3.toInt - y.toInt < (fu : Int)) → 0 < fu → wq (fX8_goOn_L3 N I1 M1 I2 M2 x3 fu I0 M0 y) (fun r => KX8 r.2.1 r.2.2 ∧ True) := by
  intro fu
  induction fu with
  | zero => intro I0 M0 y k hy hm h0; omega
  | succ fu ih =>
    intro I0 M0 y k hy hm h0
    rw [fX8_goOn_L3.eq_2]
    have l_1 := il_1
    have l_m := il_1000000
    refine wq_le (fun hc => ?_) (fun hc => ?_)
    · exact wq_s ⟨k, trivial⟩
    · refine wq_lt (fun hc2 => ?_) (fun hc2 => ?_)
      · exact wq_s ⟨k, trivial⟩
      · have h1 := k.i1
        have h2 := k.i2
        have h3 := k.i3
        refine wq_b (tt_fX3_costOn hN I1 M1 I2 M2 (I0 1) (I0 2) (I0 3) (I0 4) h1 h2 ⟨by omega, by omega⟩ k_I1 k_I2) (fun r1 _ => ?_)
        refine wq_b (tt_look N I0 M0 r1 k (by omega)) (fun r2 h => ?_)
        obtain ⟨g0, g1, g2, g3, g5⟩ := h
        have hx := Int32.toInt_lt x3
        have ta := ia_add (I0 3) (1 : Int32) (by omega) (by omega)
        have tb := ia_add y (1 : Int32) (by omega) (by omega)
        refine wq_v (fun I3 e3 => ?_)
        refine wq_v (fun v ev => ?_)
        have tv := congrArg Int32.toInt ev
        refine ih I3 r2.2 v ?_ (by omega) (by omega) (by omega)
        rw [e3, g3]
        refine ⟨g0, g1, g2, ?_, ?_, ?_, trivial⟩
        · show 0 ≤ (I0 3 + 1).toInt ∧ (I0 3 + 1).toInt ≤ 1000001
          omega
        · show 0 ≤ (r2.1 5).toInt ∧ (r2.1 5).toInt ≤ 1000001
          omega
        · show (r2.1 5).toInt ≤ (I0 3 + 1).toInt
          omega
theorem tt_fX8_goOn {N : Nat} (hN : 3000000000 ≤ N) (I0 : Nat → Int32) (M0 : Nat → Nat → Int32) (I1 : Nat → Int32) (M1 : Nat → Nat → Int32) (I2 : Nat → Int32) (M2 : Nat → Nat → Int32) (x3 : Int32) (k_I0 : KX8 I0 M0) (k_I1 : KX5 I1 M1) (k_I2 : KX1 I2 M2) : wq (fX8_goOn N I0 M0 I1 M1 I2 M2 x3) (fun r => KX8 r.2.1 r.2.2 ∧ True) := by
  unfold fX8_goOn
  have l_0 := il_0
  have hx := Int32.toInt_lt x3
  exact tt_fX8_goOn_L3 hN I1 M1 I2 M2 x3 k_I1 k_I2 N I0 M0 (0 : Int32) k_I0 (by omega) (by omega) (by omega)
set_option maxHeartbeats 4000000 in
theorem tt_fX8_howManyKept {N : Nat} (hN : 3000000000 ≤ N) (I0 : Nat → Int32) (M0 : Nat → Nat → Int32) (k_I0 : KX8 I0 M0) : wq (fX8_howManyKept N I0 M0) (fun r => (0 ≤ r.toInt ∧ r.toInt ≤ 20) ∧ True) := by
  unfold fX8_howManyKept
  have l_20 := il_20
  have t_10637 := KX8.i5 k_I0
  have t_10638 := ite_lt (20 : Int32) (I0 5) (20 : Int32) (I0 5)
  exact wq_s ⟨(show 0 ≤ (if ((20 : Int32) < (I0 5)) then (20 : Int32) else (I0 5)).toInt ∧ (if ((20 : Int32) < (I0 5)) then (20 : Int32) else (I0 5)).toInt ≤ 20 from ⟨by omega, by omega⟩), trivial⟩
set_option maxHeartbeats 4000000 in
theorem tt_fX8_keptDay {N : Nat} (hN : 3000000000 ≤ N) (I0 : Nat → Int32) (M0 : Nat → Nat → Int32) (x1 : Int32) (k_I0 : KX8 I0 M0) : wq (fX8_keptDay N I0 M0 x1) (fun r => True) := by
  unfold fX8_keptDay
  have b_10669 := i32b x1
  have l_0 := il_0
  refine wq_lt (fun hc_10670 => ?_) (fun hc_10671 => ?_)
  · have l_m1 := il_m1
    exact wq_s trivial
  · have l_20 := il_20
    refine wq_le (fun hc_10672 => ?_) (fun hc_10673 => ?_)
    · have l_m1 := il_m1
      exact wq_s trivial
    · refine wq_in (n := 20) ⟨by omega, by omega⟩ ?_
      exact wq_s trivial
set_option maxHeartbeats 4000000 in
theorem tt_fX9_hasRoom {N : Nat} (hN : 3000000000 ≤ N) (I0 : Nat → Int32) (M0 : Nat → Nat → Int32) (k_I0 : KX9 I0 M0) : wq (fX9_hasRoom N I0 M0) (fun r => (0 ≤ r.toInt ∧ r.toInt ≤ 1) ∧ True) := by
  unfold fX9_hasRoom
  have l_580 := il_580
  have t_10692 := KX9.i0 k_I0
  refine wq_lt (fun hc_10693 => ?_) (fun hc_10694 => ?_)
  · have l_0 := il_0
    exact wq_s ⟨(show 0 ≤ (0 : Int32).toInt ∧ (0 : Int32).toInt ≤ 1 from ⟨by omega, by omega⟩), trivial⟩
  · have l_1 := il_1
    exact wq_s ⟨(show 0 ≤ (1 : Int32).toInt ∧ (1 : Int32).toInt ≤ 1 from ⟨by omega, by omega⟩), trivial⟩
set_option maxHeartbeats 4000000 in
theorem tt_fX9_put_L3 {N : Nat} (hN : 3000000000 ≤ N) (x1 : Int32)   : ∀ (fu : Nat) (I0_l3 : (Nat → Int32)) (M0_l3 : (Nat → Nat → Int32)) (y3_2 : Int32), (-8 ≤ y3_2.toInt ∧ y3_2.toInt ≤ 24) → (KX9 I0_l3 M0_l3) → (y3_2.toInt - -8) < (fu : Int) → wq (fX9_put_L3 N x1 fu I0_l3 M0_l3 y3_2) (fun r => KX9 r.1 r.2 ∧ True) := by
  intro fu
  induction fu with
  | zero => intro I0_l3 M0_l3 y3_2 h_y3_2 k_I0_l3 hm; exfalso; omega
  | succ fu ih =>
    intro I0_l3 M0_l3 y3_2 h_y3_2 k_I0_l3 hm
    rw [fX9_put_L3.eq_2]
    have l_0 := il_0
    refine wq_lt (fun hc_10794 => ?_) (fun hc_10795 => ?_)
    · exact wq_s ⟨k_I0_l3, trivial⟩
    · have l_600 := il_600
      have t_10796 := KX9.i0 k_I0_l3
      refine wq_le (fun hc_10797 => ?_) (fun hc_10798 => ?_)
      · exact wq_s ⟨k_I0_l3, trivial⟩
      · refine wq_in (n := 600) ⟨by omega, by omega⟩ ?_
        refine wq_v (fun M0_1_q10799 h_M0_1_q10799 => ?_)
        have k_M0_1_q10799 : KX9 I0_l3 M0_1_q10799 := by rw [h_M0_1_q10799]; exact KX9.sm0 k_I0_l3
        refine wq_v (fun I0_2_q10800 h_I0_2_q10800 => ?_)
        have l_1 := il_1
        have t_10801 := ia_add (I0_l3 0) (1 : Int32) (by omega) (by omega)
        have k_I0_2_q10800 : KX9 I0_2_q10800 M0_1_q10799 := by rw [h_I0_2_q10800]; exact KX9.si0 k_M0_1_q10799 ⟨by omega, by omega⟩
        have l_m8 := il_m8
        have t_10803 := ia_add y3_2 ((-8) : Int32) (by omega) (by omega)
        refine wq_v (fun v3_q10802 h_v3_q10802 => ?_)
        have t_v3_q10802 := congrArg Int32.toInt h_v3_q10802
        exact ih I0_2_q10800 M0_1_q10799 v3_q10802 ⟨by omega, by omega⟩ k_I0_2_q10800 (by omega)
set_option maxHeartbeats 4000000 in
theorem tt_fX9_put {N : Nat} (hN : 3000000000 ≤ N) (I0 : Nat → Int32) (M0 : Nat → Nat → Int32) (x1 : Int32) (k_I0 : KX9 I0 M0) : wq (fX9_put N I0 M0 x1) (fun r => KX9 r.1 r.2 ∧ True) := by
  unfold fX9_put
  have b_10804 := i32b x1
  have l_24 := il_24
  exact tt_fX9_put_L3 hN x1 N I0 M0 (24 : Int32) ⟨by omega, by omega⟩ k_I0 (by omega)
set_option maxHeartbeats 4000000 in
theorem tt_fX9_isLetter {N : Nat} (hN : 3000000000 ≤ N) (x0 : Int32)  : wq (fX9_isLetter N x0) (fun r => (0 ≤ r.toInt ∧ r.toInt ≤ 1) ∧ True) := by
  unfold fX9_isLetter
  have b_10835 := i32b x0
  have l_97 := il_97
  refine wq_lt (fun hc_10836 => ?_) (fun hc_10837 => ?_)
  · have l_0 := il_0
    exact wq_s ⟨(show 0 ≤ (0 : Int32).toInt ∧ (0 : Int32).toInt ≤ 1 from ⟨by omega, by omega⟩), trivial⟩
  · have l_122 := il_122
    refine wq_lt (fun hc_10838 => ?_) (fun hc_10839 => ?_)
    · have l_0 := il_0
      exact wq_s ⟨(show 0 ≤ (0 : Int32).toInt ∧ (0 : Int32).toInt ≤ 1 from ⟨by omega, by omega⟩), trivial⟩
    · have l_1 := il_1
      exact wq_s ⟨(show 0 ≤ (1 : Int32).toInt ∧ (1 : Int32).toInt ≤ 1 from ⟨by omega, by omega⟩), trivial⟩
set_option maxHeartbeats 4000000 in
theorem tt_fX9_isDigit {N : Nat} (hN : 3000000000 ≤ N) (x0 : Int32)  : wq (fX9_isDigit N x0) (fun r => (0 ≤ r.toInt ∧ r.toInt ≤ 1) ∧ True) := by
  unfold fX9_isDigit
  have b_10870 := i32b x0
  have l_48 := il_48
  refine wq_lt (fun hc_10871 => ?_) (fun hc_10872 => ?_)
  · have l_0 := il_0
    exact wq_s ⟨(show 0 ≤ (0 : Int32).toInt ∧ (0 : Int32).toInt ≤ 1 from ⟨by omega, by omega⟩), trivial⟩
  · have l_57 := il_57
    refine wq_lt (fun hc_10873 => ?_) (fun hc_10874 => ?_)
    · have l_0 := il_0
      exact wq_s ⟨(show 0 ≤ (0 : Int32).toInt ∧ (0 : Int32).toInt ≤ 1 from ⟨by omega, by omega⟩), trivial⟩
    · have l_1 := il_1
      exact wq_s ⟨(show 0 ≤ (1 : Int32).toInt ∧ (1 : Int32).toInt ≤ 1 from ⟨by omega, by omega⟩), trivial⟩
set_option maxHeartbeats 4000000 in
theorem tt_fX9_isBlank {N : Nat} (hN : 3000000000 ≤ N) (x0 : Int32)  : wq (fX9_isBlank N x0) (fun r => (0 ≤ r.toInt ∧ r.toInt ≤ 1) ∧ True) := by
  unfold fX9_isBlank
  have b_10905 := i32b x0
  have l_32 := il_32
  refine wq_eq (fun hc_10906 => ?_) (fun hc_10907 => ?_)
  · have l_1 := il_1
    exact wq_s ⟨(show 0 ≤ (1 : Int32).toInt ∧ (1 : Int32).toInt ≤ 1 from ⟨by omega, by omega⟩), trivial⟩
  · have l_10 := il_10
    refine wq_eq (fun hc_10908 => ?_) (fun hc_10909 => ?_)
    · have l_1 := il_1
      exact wq_s ⟨(show 0 ≤ (1 : Int32).toInt ∧ (1 : Int32).toInt ≤ 1 from ⟨by omega, by omega⟩), trivial⟩
    · have l_0 := il_0
      exact wq_s ⟨(show 0 ≤ (0 : Int32).toInt ∧ (0 : Int32).toInt ≤ 1 from ⟨by omega, by omega⟩), trivial⟩
set_option maxHeartbeats 4000000 in
theorem tt_fX9_step_L150 {N : Nat} (hN : 3000000000 ≤ N)    : ∀ (fu : Nat) (I0_l150 : (Nat → Int32)) (M0_l150 : (Nat → Nat → Int32)), (KX9 I0_l150 M0_l150) → (600 - (I0_l150 3).toInt) < (fu : Int) → wq (fX9_step_L150 N fu I0_l150 M0_l150) (fun r => KX9 r.1 r.2 ∧ True) := by
  intro fu
  induction fu with
  | zero => intro I0_l150 M0_l150 k_I0_l150 hm; have hz0 := KX9.i3 k_I0_l150; exfalso; omega
  | succ fu ih =>
    intro I0_l150 M0_l150 k_I0_l150 hm
    rw [fX9_step_L150.eq_2]
    have t_11585 := KX9.i1 k_I0_l150
    have t_11586 := KX9.i3 k_I0_l150
    refine wq_le (fun hc_11587 => ?_) (fun hc_11588 => ?_)
    · exact wq_s ⟨k_I0_l150, trivial⟩
    · refine wq_in (n := 600) ⟨by omega, by omega⟩ ?_
      refine wq_b (tt_fX9_isDigit hN (M0_l150 0 (I0_l150 3).toNatClampNeg)) (fun r10_q11589 h_r10_q11589 => ?_)
      obtain ⟨h_r10_q11589_0, -⟩ := h_r10_q11589
      have l_0 := il_0
      refine wq_eq (fun hc_11590 => ?_) (fun hc_11591 => ?_)
      · exact wq_s ⟨k_I0_l150, trivial⟩
      · have l_7 := il_7
        have t_11592 := KX9.i2 k_I0_l150
        have t_11593 := ia_sub (I0_l150 3) (I0_l150 2) (by omega) (by omega)
        refine wq_le (fun hc_11594 => ?_) (fun hc_11595 => ?_)
        · unfold fX9_step_J218
          refine wq_v (fun I0_8_q11596 h_I0_8_q11596 => ?_)
          have k_I0_8_q11596 : KX9 I0_8_q11596 M0_l150 := by rw [h_I0_8_q11596]; exact KX9.si5 k_I0_l150
          have tr_11597 : (I0_8_q11596 1).toInt = (I0_l150 1).toInt := by rw [h_I0_8_q11596]; rfl
          have tr_11598 : (I0_8_q11596 3).toInt = (I0_l150 3).toInt := by rw [h_I0_8_q11596]; rfl
          refine wq_v (fun I0_9_q11599 h_I0_9_q11599 => ?_)
          have t_11600 : (I0_8_q11596 3).toInt = (I0_l150 3).toInt := by rw [h_I0_8_q11596]; rfl
          have l_1 := il_1
          have t_11601 := ia_add (I0_8_q11596 3) (1 : Int32) (by omega) (by omega)
          have k_I0_9_q11599 : KX9 I0_9_q11599 M0_l150 := by rw [h_I0_9_q11599]; exact KX9.si3 k_I0_8_q11596 ⟨by omega, by omega⟩
          have tr_11602 : (I0_9_q11599 1).toInt = (I0_8_q11596 1).toInt := by rw [h_I0_9_q11599]; rfl
          have tr_11603 : (I0_9_q11599 3).toInt = ((I0_8_q11596 3) + (1 : Int32)).toInt := by rw [h_I0_9_q11599]; rfl
          have t_11604 := KX9.i3 k_I0_9_q11599
          exact ih I0_9_q11599 M0_l150 k_I0_9_q11599 (by omega)
        · refine wq_in (n := 600) ⟨by omega, by omega⟩ ?_
          unfold fX9_step_J218
          refine wq_v (fun I0_8_q11605 h_I0_8_q11605 => ?_)
          have k_I0_8_q11605 : KX9 I0_8_q11605 M0_l150 := by rw [h_I0_8_q11605]; exact KX9.si5 k_I0_l150
          have tr_11606 : (I0_8_q11605 1).toInt = (I0_l150 1).toInt := by rw [h_I0_8_q11605]; rfl
          have tr_11607 : (I0_8_q11605 3).toInt = (I0_l150 3).toInt := by rw [h_I0_8_q11605]; rfl
          refine wq_v (fun I0_9_q11608 h_I0_9_q11608 => ?_)
          have t_11609 : (I0_8_q11605 3).toInt = (I0_l150 3).toInt := by rw [h_I0_8_q11605]; rfl
          have l_1 := il_1
          have t_11610 := ia_add (I0_8_q11605 3) (1 : Int32) (by omega) (by omega)
          have k_I0_9_q11608 : KX9 I0_9_q11608 M0_l150 := by rw [h_I0_9_q11608]; exact KX9.si3 k_I0_8_q11605 ⟨by omega, by omega⟩
          have tr_11611 : (I0_9_q11608 1).toInt = (I0_8_q11605 1).toInt := by rw [h_I0_9_q11608]; rfl
          have tr_11612 : (I0_9_q11608 3).toInt = ((I0_8_q11605 3) + (1 : Int32)).toInt := by rw [h_I0_9_q11608]; rfl
          have t_11613 := KX9.i3 k_I0_9_q11608
          exact ih I0_9_q11608 M0_l150 k_I0_9_q11608 (by omega)
set_option maxHeartbeats 4000000 in
theorem tt_fX9_step_L86 {N : Nat} (hN : 3000000000 ≤ N)    : ∀ (fu : Nat) (I0_l86 : (Nat → Int32)) (M0_l86 : (Nat → Nat → Int32)), (KX9 I0_l86 M0_l86) → (600 - (I0_l86 3).toInt) < (fu : Int) → wq (fX9_step_L86 N fu I0_l86 M0_l86) (fun r => KX9 r.1 r.2 ∧ True) := by
  intro fu
  induction fu with
  | zero => intro I0_l86 M0_l86 k_I0_l86 hm; have hz0 := KX9.i3 k_I0_l86; exfalso; omega
  | succ fu ih =>
    intro I0_l86 M0_l86 k_I0_l86 hm
    rw [fX9_step_L86.eq_2]
    have t_11614 := KX9.i1 k_I0_l86
    have t_11615 := KX9.i3 k_I0_l86
    refine wq_le (fun hc_11616 => ?_) (fun hc_11617 => ?_)
    · exact wq_s ⟨k_I0_l86, trivial⟩
    · refine wq_in (n := 600) ⟨by omega, by omega⟩ ?_
      refine wq_b (tt_fX9_isLetter hN (M0_l86 0 (I0_l86 3).toNatClampNeg)) (fun r12_q11618 h_r12_q11618 => ?_)
      obtain ⟨h_r12_q11618_0, -⟩ := h_r12_q11618
      have l_0 := il_0
      refine wq_eq (fun hc_11619 => ?_) (fun hc_11620 => ?_)
      · exact wq_s ⟨k_I0_l86, trivial⟩
      · refine wq_v (fun I0_13_q11621 h_I0_13_q11621 => ?_)
        have l_1 := il_1
        have t_11622 := ia_add (I0_l86 3) (1 : Int32) (by omega) (by omega)
        have k_I0_13_q11621 : KX9 I0_13_q11621 M0_l86 := by rw [h_I0_13_q11621]; exact KX9.si3 k_I0_l86 ⟨by omega, by omega⟩
        have tr_11623 : (I0_13_q11621 1).toInt = (I0_l86 1).toInt := by rw [h_I0_13_q11621]; rfl
        have tr_11624 : (I0_13_q11621 3).toInt = ((I0_l86 3) + (1 : Int32)).toInt := by rw [h_I0_13_q11621]; rfl
        have t_11625 := KX9.i3 k_I0_13_q11621
        exact ih I0_13_q11621 M0_l86 k_I0_13_q11621 (by omega)
set_option maxHeartbeats 4000000 in
theorem tt_fX9_step_L0 {N : Nat} (hN : 3000000000 ≤ N)    : ∀ (fu : Nat) (I0_l0 : (Nat → Int32)) (M0_l0 : (Nat → Nat → Int32)), (KX9 I0_l0 M0_l0) → (600 - (I0_l0 3).toInt) < (fu : Int) → wq (fX9_step_L0 N fu I0_l0 M0_l0) (fun r => KX9 r.1 r.2 ∧ True) := by
  intro fu
  induction fu with
  | zero => intro I0_l0 M0_l0 k_I0_l0 hm; have hz0 := KX9.i3 k_I0_l0; exfalso; omega
  | succ fu ih =>
    intro I0_l0 M0_l0 k_I0_l0 hm
    rw [fX9_step_L0.eq_2]
    have t_11626 := KX9.i1 k_I0_l0
    have t_11627 := KX9.i3 k_I0_l0
    refine wq_le (fun hc_11628 => ?_) (fun hc_11629 => ?_)
    · unfold fX9_step_J39
      refine wq_v (fun I0_3_q11630 h_I0_3_q11630 => ?_)
      have k_I0_3_q11630 : KX9 I0_3_q11630 M0_l0 := by rw [h_I0_3_q11630]; exact KX9.si2 k_I0_l0 ⟨by omega, by omega⟩
      have tr_11631 : (I0_3_q11630 1).toInt = (I0_l0 1).toInt := by rw [h_I0_3_q11630]; rfl
      have tr_11632 : (I0_3_q11630 3).toInt = (I0_l0 3).toInt := by rw [h_I0_3_q11630]; rfl
      have t_11633 : (I0_3_q11630 3).toInt = (I0_l0 3).toInt := by rw [h_I0_3_q11630]; rfl
      have t_11634 : (I0_3_q11630 1).toInt = (I0_l0 1).toInt := by rw [h_I0_3_q11630]; rfl
      refine wq_lt (fun hc_11635 => ?_) (fun hc_11636 => ?_)
      · refine wq_in (n := 600) ⟨by omega, by omega⟩ ?_
        refine wq_b (tt_fX9_isLetter hN (M0_l0 0 (I0_3_q11630 3).toNatClampNeg)) (fun r4_q11637 h_r4_q11637 => ?_)
        obtain ⟨h_r4_q11637_0, -⟩ := h_r4_q11637
        have l_0 := il_0
        refine wq_eq (fun hc_11638 => ?_) (fun hc_11639 => ?_)
        · refine wq_in (n := 600) ⟨by omega, by omega⟩ ?_
          refine wq_b (tt_fX9_isDigit hN (M0_l0 0 (I0_3_q11630 3).toNatClampNeg)) (fun r5_q11640 h_r5_q11640 => ?_)
          obtain ⟨h_r5_q11640_0, -⟩ := h_r5_q11640
          refine wq_eq (fun hc_11641 => ?_) (fun hc_11642 => ?_)
          · refine wq_in (n := 600) ⟨by omega, by omega⟩ ?_
            have l_59 := il_59
            refine wq_eq (fun hc_11643 => ?_) (fun hc_11644 => ?_)
            · unfold fX9_step_J254
              refine wq_v (fun I0_1_q11645 h_I0_1_q11645 => ?_)
              have k_I0_1_q11645 : KX9 I0_1_q11645 M0_l0 := by rw [h_I0_1_q11645]; exact KX9.si4 k_I0_3_q11630
              have tr_11646 : (I0_1_q11645 1).toInt = (I0_3_q11630 1).toInt := by rw [h_I0_1_q11645]; rfl
              have tr_11647 : (I0_1_q11645 3).toInt = (I0_3_q11630 3).toInt := by rw [h_I0_1_q11645]; rfl
              refine wq_v (fun I0_2_q11648 h_I0_2_q11648 => ?_)
              have t_11649 : (I0_1_q11645 3).toInt = (I0_3_q11630 3).toInt := by rw [h_I0_1_q11645]; rfl
              have l_1 := il_1
              have t_11650 := ia_add (I0_1_q11645 3) (1 : Int32) (by omega) (by omega)
              have k_I0_2_q11648 : KX9 I0_2_q11648 M0_l0 := by rw [h_I0_2_q11648]; exact KX9.si3 k_I0_1_q11645 ⟨by omega, by omega⟩
              have tr_11651 : (I0_2_q11648 1).toInt = (I0_1_q11645 1).toInt := by rw [h_I0_2_q11648]; rfl
              have tr_11652 : (I0_2_q11648 3).toInt = ((I0_1_q11645 3) + (1 : Int32)).toInt := by rw [h_I0_2_q11648]; rfl
              exact wq_s ⟨k_I0_2_q11648, trivial⟩
            · unfold fX9_step_J254
              refine wq_v (fun I0_1_q11653 h_I0_1_q11653 => ?_)
              have k_I0_1_q11653 : KX9 I0_1_q11653 M0_l0 := by rw [h_I0_1_q11653]; exact KX9.si4 k_I0_3_q11630
              have tr_11654 : (I0_1_q11653 1).toInt = (I0_3_q11630 1).toInt := by rw [h_I0_1_q11653]; rfl
              have tr_11655 : (I0_1_q11653 3).toInt = (I0_3_q11630 3).toInt := by rw [h_I0_1_q11653]; rfl
              refine wq_v (fun I0_2_q11656 h_I0_2_q11656 => ?_)
              have t_11657 : (I0_1_q11653 3).toInt = (I0_3_q11630 3).toInt := by rw [h_I0_1_q11653]; rfl
              have l_1 := il_1
              have t_11658 := ia_add (I0_1_q11653 3) (1 : Int32) (by omega) (by omega)
              have k_I0_2_q11656 : KX9 I0_2_q11656 M0_l0 := by rw [h_I0_2_q11656]; exact KX9.si3 k_I0_1_q11653 ⟨by omega, by omega⟩
              have tr_11659 : (I0_2_q11656 1).toInt = (I0_1_q11653 1).toInt := by rw [h_I0_2_q11656]; rfl
              have tr_11660 : (I0_2_q11656 3).toInt = ((I0_1_q11653 3) + (1 : Int32)).toInt := by rw [h_I0_2_q11656]; rfl
              exact wq_s ⟨k_I0_2_q11656, trivial⟩
          · refine wq_v (fun I0_6_q11661 h_I0_6_q11661 => ?_)
            have k_I0_6_q11661 : KX9 I0_6_q11661 M0_l0 := by rw [h_I0_6_q11661]; exact KX9.si4 k_I0_3_q11630
            have tr_11662 : (I0_6_q11661 1).toInt = (I0_3_q11630 1).toInt := by rw [h_I0_6_q11661]; rfl
            have tr_11663 : (I0_6_q11661 3).toInt = (I0_3_q11630 3).toInt := by rw [h_I0_6_q11661]; rfl
            refine wq_v (fun I0_7_q11664 h_I0_7_q11664 => ?_)
            have k_I0_7_q11664 : KX9 I0_7_q11664 M0_l0 := by rw [h_I0_7_q11664]; exact KX9.si5 k_I0_6_q11661
            have tr_11665 : (I0_7_q11664 1).toInt = (I0_6_q11661 1).toInt := by rw [h_I0_7_q11664]; rfl
            have tr_11666 : (I0_7_q11664 3).toInt = (I0_6_q11661 3).toInt := by rw [h_I0_7_q11664]; rfl
            have t_11667 := KX9.i3 k_I0_7_q11664
            exact tt_fX9_step_L150 hN N I0_7_q11664 M0_l0 k_I0_7_q11664 (by omega)
        · refine wq_v (fun I0_11_q11668 h_I0_11_q11668 => ?_)
          have k_I0_11_q11668 : KX9 I0_11_q11668 M0_l0 := by rw [h_I0_11_q11668]; exact KX9.si4 k_I0_3_q11630
          have tr_11669 : (I0_11_q11668 1).toInt = (I0_3_q11630 1).toInt := by rw [h_I0_11_q11668]; rfl
          have tr_11670 : (I0_11_q11668 3).toInt = (I0_3_q11630 3).toInt := by rw [h_I0_11_q11668]; rfl
          have t_11671 := KX9.i3 k_I0_11_q11668
          exact tt_fX9_step_L86 hN N I0_11_q11668 M0_l0 k_I0_11_q11668 (by omega)
      · refine wq_v (fun I0_14_q11672 h_I0_14_q11672 => ?_)
        have k_I0_14_q11672 : KX9 I0_14_q11672 M0_l0 := by rw [h_I0_14_q11672]; exact KX9.si4 k_I0_3_q11630
        have tr_11673 : (I0_14_q11672 1).toInt = (I0_3_q11630 1).toInt := by rw [h_I0_14_q11672]; rfl
        have tr_11674 : (I0_14_q11672 3).toInt = (I0_3_q11630 3).toInt := by rw [h_I0_14_q11672]; rfl
        exact wq_s ⟨k_I0_14_q11672, trivial⟩
    · refine wq_in (n := 600) ⟨by omega, by omega⟩ ?_
      refine wq_b (tt_fX9_isBlank hN (M0_l0 0 (I0_l0 3).toNatClampNeg)) (fun r15_q11675 h_r15_q11675 => ?_)
      obtain ⟨h_r15_q11675_0, -⟩ := h_r15_q11675
      have l_0 := il_0
      refine wq_eq (fun hc_11676 => ?_) (fun hc_11677 => ?_)
      · unfold fX9_step_J39
        refine wq_v (fun I0_3_q11678 h_I0_3_q11678 => ?_)
        have k_I0_3_q11678 : KX9 I0_3_q11678 M0_l0 := by rw [h_I0_3_q11678]; exact KX9.si2 k_I0_l0 ⟨by omega, by omega⟩
        have tr_11679 : (I0_3_q11678 1).toInt = (I0_l0 1).toInt := by rw [h_I0_3_q11678]; rfl
        have tr_11680 : (I0_3_q11678 3).toInt = (I0_l0 3).toInt := by rw [h_I0_3_q11678]; rfl
        have t_11681 : (I0_3_q11678 3).toInt = (I0_l0 3).toInt := by rw [h_I0_3_q11678]; rfl
        have t_11682 : (I0_3_q11678 1).toInt = (I0_l0 1).toInt := by rw [h_I0_3_q11678]; rfl
        refine wq_lt (fun hc_11683 => ?_) (fun hc_11684 => ?_)
        · refine wq_in (n := 600) ⟨by omega, by omega⟩ ?_
          refine wq_b (tt_fX9_isLetter hN (M0_l0 0 (I0_3_q11678 3).toNatClampNeg)) (fun r4_q11685 h_r4_q11685 => ?_)
          obtain ⟨h_r4_q11685_0, -⟩ := h_r4_q11685
          refine wq_eq (fun hc_11686 => ?_) (fun hc_11687 => ?_)
          · refine wq_in (n := 600) ⟨by omega, by omega⟩ ?_
            refine wq_b (tt_fX9_isDigit hN (M0_l0 0 (I0_3_q11678 3).toNatClampNeg)) (fun r5_q11688 h_r5_q11688 => ?_)
            obtain ⟨h_r5_q11688_0, -⟩ := h_r5_q11688
            refine wq_eq (fun hc_11689 => ?_) (fun hc_11690 => ?_)
            · refine wq_in (n := 600) ⟨by omega, by omega⟩ ?_
              have l_59 := il_59
              refine wq_eq (fun hc_11691 => ?_) (fun hc_11692 => ?_)
              · unfold fX9_step_J254
                refine wq_v (fun I0_1_q11693 h_I0_1_q11693 => ?_)
                have k_I0_1_q11693 : KX9 I0_1_q11693 M0_l0 := by rw [h_I0_1_q11693]; exact KX9.si4 k_I0_3_q11678
                have tr_11694 : (I0_1_q11693 1).toInt = (I0_3_q11678 1).toInt := by rw [h_I0_1_q11693]; rfl
                have tr_11695 : (I0_1_q11693 3).toInt = (I0_3_q11678 3).toInt := by rw [h_I0_1_q11693]; rfl
                refine wq_v (fun I0_2_q11696 h_I0_2_q11696 => ?_)
                have t_11697 : (I0_1_q11693 3).toInt = (I0_3_q11678 3).toInt := by rw [h_I0_1_q11693]; rfl
                have l_1 := il_1
                have t_11698 := ia_add (I0_1_q11693 3) (1 : Int32) (by omega) (by omega)
                have k_I0_2_q11696 : KX9 I0_2_q11696 M0_l0 := by rw [h_I0_2_q11696]; exact KX9.si3 k_I0_1_q11693 ⟨by omega, by omega⟩
                have tr_11699 : (I0_2_q11696 1).toInt = (I0_1_q11693 1).toInt := by rw [h_I0_2_q11696]; rfl
                have tr_11700 : (I0_2_q11696 3).toInt = ((I0_1_q11693 3) + (1 : Int32)).toInt := by rw [h_I0_2_q11696]; rfl
                exact wq_s ⟨k_I0_2_q11696, trivial⟩
              · unfold fX9_step_J254
                refine wq_v (fun I0_1_q11701 h_I0_1_q11701 => ?_)
                have k_I0_1_q11701 : KX9 I0_1_q11701 M0_l0 := by rw [h_I0_1_q11701]; exact KX9.si4 k_I0_3_q11678
                have tr_11702 : (I0_1_q11701 1).toInt = (I0_3_q11678 1).toInt := by rw [h_I0_1_q11701]; rfl
                have tr_11703 : (I0_1_q11701 3).toInt = (I0_3_q11678 3).toInt := by rw [h_I0_1_q11701]; rfl
                refine wq_v (fun I0_2_q11704 h_I0_2_q11704 => ?_)
                have t_11705 : (I0_1_q11701 3).toInt = (I0_3_q11678 3).toInt := by rw [h_I0_1_q11701]; rfl
                have l_1 := il_1
                have t_11706 := ia_add (I0_1_q11701 3) (1 : Int32) (by omega) (by omega)
                have k_I0_2_q11704 : KX9 I0_2_q11704 M0_l0 := by rw [h_I0_2_q11704]; exact KX9.si3 k_I0_1_q11701 ⟨by omega, by omega⟩
                have tr_11707 : (I0_2_q11704 1).toInt = (I0_1_q11701 1).toInt := by rw [h_I0_2_q11704]; rfl
                have tr_11708 : (I0_2_q11704 3).toInt = ((I0_1_q11701 3) + (1 : Int32)).toInt := by rw [h_I0_2_q11704]; rfl
                exact wq_s ⟨k_I0_2_q11704, trivial⟩
            · refine wq_v (fun I0_6_q11709 h_I0_6_q11709 => ?_)
              have k_I0_6_q11709 : KX9 I0_6_q11709 M0_l0 := by rw [h_I0_6_q11709]; exact KX9.si4 k_I0_3_q11678
              have tr_11710 : (I0_6_q11709 1).toInt = (I0_3_q11678 1).toInt := by rw [h_I0_6_q11709]; rfl
              have tr_11711 : (I0_6_q11709 3).toInt = (I0_3_q11678 3).toInt := by rw [h_I0_6_q11709]; rfl
              refine wq_v (fun I0_7_q11712 h_I0_7_q11712 => ?_)
              have k_I0_7_q11712 : KX9 I0_7_q11712 M0_l0 := by rw [h_I0_7_q11712]; exact KX9.si5 k_I0_6_q11709
              have tr_11713 : (I0_7_q11712 1).toInt = (I0_6_q11709 1).toInt := by rw [h_I0_7_q11712]; rfl
              have tr_11714 : (I0_7_q11712 3).toInt = (I0_6_q11709 3).toInt := by rw [h_I0_7_q11712]; rfl
              have t_11715 := KX9.i3 k_I0_7_q11712
              exact tt_fX9_step_L150 hN N I0_7_q11712 M0_l0 k_I0_7_q11712 (by omega)
          · refine wq_v (fun I0_11_q11716 h_I0_11_q11716 => ?_)
            have k_I0_11_q11716 : KX9 I0_11_q11716 M0_l0 := by rw [h_I0_11_q11716]; exact KX9.si4 k_I0_3_q11678
            have tr_11717 : (I0_11_q11716 1).toInt = (I0_3_q11678 1).toInt := by rw [h_I0_11_q11716]; rfl
            have tr_11718 : (I0_11_q11716 3).toInt = (I0_3_q11678 3).toInt := by rw [h_I0_11_q11716]; rfl
            have t_11719 := KX9.i3 k_I0_11_q11716
            exact tt_fX9_step_L86 hN N I0_11_q11716 M0_l0 k_I0_11_q11716 (by omega)
        · refine wq_v (fun I0_14_q11720 h_I0_14_q11720 => ?_)
          have k_I0_14_q11720 : KX9 I0_14_q11720 M0_l0 := by rw [h_I0_14_q11720]; exact KX9.si4 k_I0_3_q11678
          have tr_11721 : (I0_14_q11720 1).toInt = (I0_3_q11678 1).toInt := by rw [h_I0_14_q11720]; rfl
          have tr_11722 : (I0_14_q11720 3).toInt = (I0_3_q11678 3).toInt := by rw [h_I0_14_q11720]; rfl
          exact wq_s ⟨k_I0_14_q11720, trivial⟩
      · refine wq_v (fun I0_16_q11723 h_I0_16_q11723 => ?_)
        have l_1 := il_1
        have t_11724 := ia_add (I0_l0 3) (1 : Int32) (by omega) (by omega)
        have k_I0_16_q11723 : KX9 I0_16_q11723 M0_l0 := by rw [h_I0_16_q11723]; exact KX9.si3 k_I0_l0 ⟨by omega, by omega⟩
        have tr_11725 : (I0_16_q11723 1).toInt = (I0_l0 1).toInt := by rw [h_I0_16_q11723]; rfl
        have tr_11726 : (I0_16_q11723 3).toInt = ((I0_l0 3) + (1 : Int32)).toInt := by rw [h_I0_16_q11723]; rfl
        have t_11727 := KX9.i3 k_I0_16_q11723
        exact ih I0_16_q11723 M0_l0 k_I0_16_q11723 (by omega)
set_option maxHeartbeats 4000000 in
theorem tt_fX9_step {N : Nat} (hN : 3000000000 ≤ N) (I0 : Nat → Int32) (M0 : Nat → Nat → Int32) (k_I0 : KX9 I0 M0) : wq (fX9_step N I0 M0) (fun r => KX9 r.1 r.2 ∧ True) := by
  unfold fX9_step
  have t_11728 := KX9.i3 k_I0
  exact tt_fX9_step_L0 hN N I0 M0 k_I0 (by omega)
set_option maxHeartbeats 4000000 in
theorem tt_fX9_begin {N : Nat} (hN : 3000000000 ≤ N) (I0 : Nat → Int32) (M0 : Nat → Nat → Int32) (x1 : Int32) (h_x1 : 0 ≤ x1.toInt ∧ x1.toInt ≤ 600) (k_I0 : KX9 I0 M0) : wq (fX9_begin N I0 M0 x1) (fun r => KX9 r.1 r.2 ∧ True) := by
  unfold fX9_begin
  refine wq_v (fun I0_1_q11769 h_I0_1_q11769 => ?_)
  have t_11770 := KX9.i0 k_I0
  have t_11771 := ite_lt (I0 0) x1 (I0 0) x1
  have k_I0_1_q11769 : KX9 I0_1_q11769 M0 := by rw [h_I0_1_q11769]; exact KX9.si1 k_I0 ⟨by omega, by omega⟩
  refine wq_v (fun I0_2_q11772 h_I0_2_q11772 => ?_)
  have l_0 := il_0
  have k_I0_2_q11772 : KX9 I0_2_q11772 M0 := by rw [h_I0_2_q11772]; exact KX9.si0 k_I0_1_q11769 ⟨by omega, by omega⟩
  refine wq_v (fun I0_3_q11773 h_I0_3_q11773 => ?_)
  have k_I0_3_q11773 : KX9 I0_3_q11773 M0 := by rw [h_I0_3_q11773]; exact KX9.si3 k_I0_2_q11772 ⟨by omega, by omega⟩
  refine wq_v (fun I0_4_q11774 h_I0_4_q11774 => ?_)
  have k_I0_4_q11774 : KX9 I0_4_q11774 M0 := by rw [h_I0_4_q11774]; exact KX9.si7 k_I0_3_q11773
  refine wq_v (fun I0_5_q11775 h_I0_5_q11775 => ?_)
  have k_I0_5_q11775 : KX9 I0_5_q11775 M0 := by rw [h_I0_5_q11775]; exact KX9.si8 k_I0_4_q11774
  refine wq_b (tt_fX9_step hN I0_5_q11775 M0 k_I0_5_q11775) (fun r6_q11776 h_r6_q11776 => ?_)
  obtain ⟨h_r6_q11776_0, -⟩ := h_r6_q11776
  exact wq_s ⟨h_r6_q11776_0, trivial⟩
set_option maxHeartbeats 4000000 in
theorem tt_fX9_refuse {N : Nat} (hN : 3000000000 ≤ N) (I0 : Nat → Int32) (M0 : Nat → Nat → Int32) (x1 : Int32) (k_I0 : KX9 I0 M0) : wq (fX9_refuse N I0 M0 x1) (fun r => (0 ≤ r.1.toInt ∧ r.1.toInt ≤ 0) ∧ KX9 r.2.1 r.2.2 ∧ True) := by
  unfold fX9_refuse
  refine wq_v (fun I0_1_q11789 h_I0_1_q11789 => ?_)
  have k_I0_1_q11789 : KX9 I0_1_q11789 M0 := by rw [h_I0_1_q11789]; exact KX9.si7 k_I0
  refine wq_v (fun I0_2_q11790 h_I0_2_q11790 => ?_)
  have k_I0_2_q11790 : KX9 I0_2_q11790 M0 := by rw [h_I0_2_q11790]; exact KX9.si8 k_I0_1_q11789
  have l_0 := il_0
  exact wq_s ⟨(show 0 ≤ (0 : Int32).toInt ∧ (0 : Int32).toInt ≤ 0 from ⟨by omega, by omega⟩), k_I0_2_q11790, trivial⟩
set_option maxHeartbeats 4000000 in
theorem tt_fX9_takeStop {N : Nat} (hN : 3000000000 ≤ N) (I0 : Nat → Int32) (M0 : Nat → Nat → Int32) (k_I0 : KX9 I0 M0) : wq (fX9_takeStop N I0 M0) (fun r => (0 ≤ r.1.toInt ∧ r.1.toInt ≤ 1) ∧ KX9 r.2.1 r.2.2 ∧ True) := by
  unfold fX9_takeStop
  have l_3 := il_3
  refine wq_eq (fun hc_11815 => ?_) (fun hc_11816 => ?_)
  · refine wq_b (tt_fX9_step hN I0 M0 k_I0) (fun r1_q11817 h_r1_q11817 => ?_)
    obtain ⟨h_r1_q11817_0, -⟩ := h_r1_q11817
    have l_1 := il_1
    exact wq_s ⟨(show 0 ≤ (1 : Int32).toInt ∧ (1 : Int32).toInt ≤ 1 from ⟨by omega, by omega⟩), h_r1_q11817_0, trivial⟩
  · have l_1 := il_1
    refine wq_b (tt_fX9_refuse hN I0 M0 (1 : Int32) k_I0) (fun r2_q11818 h_r2_q11818 => ?_)
    obtain ⟨h_r2_q11818_0, h_r2_q11818_1, -⟩ := h_r2_q11818
    refine wq_bz (by omega) ?_
    exact wq_s ⟨(show 0 ≤ r2_q11818.1.toInt ∧ r2_q11818.1.toInt ≤ 1 from ⟨by omega, by omega⟩), h_r2_q11818_1, trivial⟩
set_option maxHeartbeats 4000000 in
theorem tt_fX9_holdsNumber {N : Nat} (hN : 3000000000 ≤ N) (I0 : Nat → Int32) (M0 : Nat → Nat → Int32) (x1 : Int32) (x2 : Int32) (k_I0 : KX9 I0 M0) : wq (fX9_holdsNumber N I0 M0 x1 x2) (fun r => (0 ≤ r.1.toInt ∧ r.1.toInt ≤ 1) ∧ KX9 r.2.1 r.2.2 ∧ True) := by
  unfold fX9_holdsNumber
  have l_2 := il_2
  refine wq_eq (fun hc_11927 => ?_) (fun hc_11928 => ?_)
  · have l_7 := il_7
    have t_11929 := KX9.i3 k_I0
    have t_11930 := KX9.i2 k_I0
    have t_11931 := ia_sub (I0 3) (I0 2) (by omega) (by omega)
    refine wq_lt (fun hc_11932 => ?_) (fun hc_11933 => ?_)
    · refine wq_b (tt_fX9_refuse hN I0 M0 (2 : Int32) k_I0) (fun r1_q11934 h_r1_q11934 => ?_)
      obtain ⟨h_r1_q11934_0, h_r1_q11934_1, -⟩ := h_r1_q11934
      refine wq_bz (by omega) ?_
      exact wq_s ⟨(show 0 ≤ r1_q11934.1.toInt ∧ r1_q11934.1.toInt ≤ 1 from ⟨by omega, by omega⟩), h_r1_q11934_1, trivial⟩
    · have b_11935 := i32b x1
      refine wq_lt (fun hc_11936 => ?_) (fun hc_11937 => ?_)
      · refine wq_b (tt_fX9_refuse hN I0 M0 (2 : Int32) k_I0) (fun r2_q11938 h_r2_q11938 => ?_)
        obtain ⟨h_r2_q11938_0, h_r2_q11938_1, -⟩ := h_r2_q11938
        refine wq_bz (by omega) ?_
        exact wq_s ⟨(show 0 ≤ r2_q11938.1.toInt ∧ r2_q11938.1.toInt ≤ 1 from ⟨by omega, by omega⟩), h_r2_q11938_1, trivial⟩
      · have b_11939 := i32b x2
        refine wq_le (fun hc_11940 => ?_) (fun hc_11941 => ?_)
        · refine wq_v (fun I0_3_q11942 h_I0_3_q11942 => ?_)
          have k_I0_3_q11942 : KX9 I0_3_q11942 M0 := by rw [h_I0_3_q11942]; exact KX9.si6 k_I0
          have l_1 := il_1
          exact wq_s ⟨(show 0 ≤ (1 : Int32).toInt ∧ (1 : Int32).toInt ≤ 1 from ⟨by omega, by omega⟩), k_I0_3_q11942, trivial⟩
        · refine wq_b (tt_fX9_refuse hN I0 M0 (2 : Int32) k_I0) (fun r4_q11943 h_r4_q11943 => ?_)
          obtain ⟨h_r4_q11943_0, h_r4_q11943_1, -⟩ := h_r4_q11943
          refine wq_bz (by omega) ?_
          exact wq_s ⟨(show 0 ≤ r4_q11943.1.toInt ∧ r4_q11943.1.toInt ≤ 1 from ⟨by omega, by omega⟩), h_r4_q11943_1, trivial⟩
  · have l_1 := il_1
    refine wq_b (tt_fX9_refuse hN I0 M0 (1 : Int32) k_I0) (fun r5_q11944 h_r5_q11944 => ?_)
    obtain ⟨h_r5_q11944_0, h_r5_q11944_1, -⟩ := h_r5_q11944
    refine wq_bz (by omega) ?_
    exact wq_s ⟨(show 0 ≤ r5_q11944.1.toInt ∧ r5_q11944.1.toInt ≤ 1 from ⟨by omega, by omega⟩), h_r5_q11944_1, trivial⟩
set_option maxHeartbeats 4000000 in
theorem tt_fX9_takeNumber {N : Nat} (hN : 3000000000 ≤ N) (I0 : Nat → Int32) (M0 : Nat → Nat → Int32) (x1 : Int32) (x2 : Int32) (k_I0 : KX9 I0 M0) : wq (fX9_takeNumber N I0 M0 x1 x2) (fun r => (0 ≤ r.1.toInt ∧ r.1.toInt ≤ 1) ∧ KX9 r.2.1 r.2.2 ∧ True) := by
  unfold fX9_takeNumber
  have b_11981 := i32b x1
  have b_11982 := i32b x2
  refine wq_b (tt_fX9_holdsNumber hN I0 M0 x1 x2 k_I0) (fun r1_q11983 h_r1_q11983 => ?_)
  obtain ⟨h_r1_q11983_0, h_r1_q11983_1, -⟩ := h_r1_q11983
  have l_0 := il_0
  refine wq_eq (fun hc_11984 => ?_) (fun hc_11985 => ?_)
  · exact wq_s ⟨(show 0 ≤ (0 : Int32).toInt ∧ (0 : Int32).toInt ≤ 1 from ⟨by omega, by omega⟩), h_r1_q11983_1, trivial⟩
  · refine wq_b (tt_fX9_step hN r1_q11983.2.1 r1_q11983.2.2 h_r1_q11983_1) (fun r2_q11986 h_r2_q11986 => ?_)
    obtain ⟨h_r2_q11986_0, -⟩ := h_r2_q11986
    have l_1 := il_1
    exact wq_s ⟨(show 0 ≤ (1 : Int32).toInt ∧ (1 : Int32).toInt ≤ 1 from ⟨by omega, by omega⟩), h_r2_q11986_0, trivial⟩
set_option maxHeartbeats 4000000 in
theorem tt_fX10_priceOfEntry {N : Nat} (hN : 3000000000 ≤ N) (I0 : Nat → Int32) (M0 : Nat → Nat → Int32) (x1 : Int32) (x2 : Int32) (x3 : Int32) (h_x2 : -1 ≤ x2.toInt ∧ x2.toInt ≤ 389) (h_x3 : -1 ≤ x3.toInt ∧ x3.toInt ≤ 389) : wq (fX10_priceOfEntry N I0 M0 x1 x2 x3) (fun r => (0 ≤ r.toInt ∧ r.toInt ≤ 4) ∧ True) := by
  unfold fX10_priceOfEntry
  refine wq_eq (fun hc_12059 => ?_) (fun hc_12060 => ?_)
  · have l_0 := il_0
    exact wq_s ⟨(show 0 ≤ (0 : Int32).toInt ∧ (0 : Int32).toInt ≤ 4 from ⟨by omega, by omega⟩), trivial⟩
  · have l_m1 := il_m1
    refine wq_eq (fun hc_12061 => ?_) (fun hc_12062 => ?_)
    · have l_1 := il_1
      exact wq_s ⟨(show 0 ≤ (1 : Int32).toInt ∧ (1 : Int32).toInt ≤ 4 from ⟨by omega, by omega⟩), trivial⟩
    · refine wq_eq (fun hc_12063 => ?_) (fun hc_12064 => ?_)
      · have l_4 := il_4
        exact wq_s ⟨(show 0 ≤ (4 : Int32).toInt ∧ (4 : Int32).toInt ≤ 4 from ⟨by omega, by omega⟩), trivial⟩
      · have b_12065 := i32b x1
        have l_21 := il_21
        refine wq_eq (fun hc_12066 => ?_) (fun hc_12067 => ?_)
        · have l_3 := il_3
          exact wq_s ⟨(show 0 ≤ (3 : Int32).toInt ∧ (3 : Int32).toInt ≤ 4 from ⟨by omega, by omega⟩), trivial⟩
        · refine wq_b (tt_fX4_costBeside hN I0 M0 x3 x2 ⟨by omega, by omega⟩) (fun r1_q12068 h_r1_q12068 => ?_)
          obtain ⟨h_r1_q12068_0, -⟩ := h_r1_q12068
          have l_1 := il_1
          refine wq_eq (fun hc_12069 => ?_) (fun hc_12070 => ?_)
          · exact wq_s ⟨(show 0 ≤ (1 : Int32).toInt ∧ (1 : Int32).toInt ≤ 4 from ⟨by omega, by omega⟩), trivial⟩
          · have l_3 := il_3
            exact wq_s ⟨(show 0 ≤ (3 : Int32).toInt ∧ (3 : Int32).toInt ≤ 4 from ⟨by omega, by omega⟩), trivial⟩
set_option maxHeartbeats 4000000 in
theorem tt_fX10_priceOf_L16 {N : Nat} (hN : 3000000000 ≤ N) (I0 : Nat → Int32) (M0 : Nat → Nat → Int32) (I1 : Nat → Int32) (M1 : Nat → Nat → Int32) (x2 : Int32) (x3 : Int32) (y6_5 : Int32) (g6 : Int32 → Int32 → Option (Int32)) (h_x2 : 0 ≤ x2.toInt ∧ x2.toInt ≤ 5) (h_x3 : 0 ≤ x3.toInt ∧ x3.toInt ≤ 5) (h_y6_5 : 0 ≤ y6_5.toInt ∧ y6_5.toInt ≤ 19) (k_I1 : KX1 I1 M1) (hg6 : ∀ (q0 : Int32) (q1 : Int32), (0 ≤ q1.toInt ∧ q1.toInt ≤ 20) → (y6_5.toInt < q1.toInt) → wq (g6 q0 q1) (fun r => True)) : ∀ (fu : Nat) (y16_4 : Int32) (y16_6 : Int32), (0 ≤ y16_6.toInt ∧ y16_6.toInt ≤ 22) → (22 - y16_6.toInt) < (fu : Int) → wq (fX10_priceOf_L16 N I0 M0 I1 M1 x2 x3 y6_5 g6 fu y16_4 y16_6) (fun r => True) := by
  intro fu
  induction fu with
  | zero => intro y16_4 y16_6 h_y16_6 hm; exfalso; omega
  | succ fu ih =>
    intro y16_4 y16_6 h_y16_6 hm
    rw [fX10_priceOf_L16.eq_2]
    have l_22 := il_22
    refine wq_le (fun hc_12454 => ?_) (fun hc_12455 => ?_)
    · have l_1 := il_1
      have t_12457 := ia_add y6_5 (1 : Int32) (by omega) (by omega)
      refine wq_v (fun v1_q12456 h_v1_q12456 => ?_)
      have t_v1_q12456 := congrArg Int32.toInt h_v1_q12456
      have b_12458 := i32b y16_4
      exact hg6 y16_4 v1_q12456 ⟨by omega, by omega⟩ (by omega)
    · have l_20 := il_20
      have t_12459 := ia_mul (20 : Int32) (20) il_20 x2 (by omega) (by omega)
      have t_12460 := ia_add ((20 : Int32) * x2) y6_5 (by omega) (by omega)
      refine wq_b (tt_fX1_degreeOf hN I1 M1 (((20 : Int32) * x2) + y6_5) y16_6 ⟨by omega, by omega⟩ ⟨by omega, by omega⟩ k_I1) (fun r2_q12461 h_r2_q12461 => ?_)
      obtain ⟨h_r2_q12461_0, h_r2_q12461_1, -⟩ := h_r2_q12461
      have t_12462 := ia_mul (20 : Int32) (20) il_20 x3 (by omega) (by omega)
      have t_12463 := ia_add ((20 : Int32) * x3) y6_5 (by omega) (by omega)
      refine wq_b (tt_fX1_degreeOf hN I1 M1 (((20 : Int32) * x3) + y6_5) y16_6 ⟨by omega, by omega⟩ ⟨by omega, by omega⟩ k_I1) (fun r3_q12464 h_r3_q12464 => ?_)
      obtain ⟨h_r3_q12464_0, h_r3_q12464_1, -⟩ := h_r3_q12464
      refine wq_b (tt_fX10_priceOfEntry hN I0 M0 y16_6 r2_q12461 r3_q12464 ⟨by omega, by omega⟩ ⟨by omega, by omega⟩) (fun r4_q12465 h_r4_q12465 => ?_)
      obtain ⟨h_r4_q12465_0, -⟩ := h_r4_q12465
      have b_12467 := i32b y16_4
      refine wq_v (fun v5_q12466 h_v5_q12466 => ?_)
      have t_v5_q12466 := congrArg Int32.toInt h_v5_q12466
      have l_1 := il_1
      have t_12469 := ia_add y16_6 (1 : Int32) (by omega) (by omega)
      refine wq_v (fun v6_q12468 h_v6_q12468 => ?_)
      have t_v6_q12468 := congrArg Int32.toInt h_v6_q12468
      have b_12470 := i32b v5_q12466
      exact ih v5_q12466 v6_q12468 ⟨by omega, by omega⟩ (by omega)
set_option maxHeartbeats 4000000 in
theorem tt_fX10_priceOf_L6 {N : Nat} (hN : 3000000000 ≤ N) (I0 : Nat → Int32) (M0 : Nat → Nat → Int32) (I1 : Nat → Int32) (M1 : Nat → Nat → Int32) (x2 : Int32) (x3 : Int32) (h_x2 : 0 ≤ x2.toInt ∧ x2.toInt ≤ 5) (h_x3 : 0 ≤ x3.toInt ∧ x3.toInt ≤ 5) (k_I1 : KX1 I1 M1)  : ∀ (fu : Nat) (y6_4 : Int32) (y6_5 : Int32), (0 ≤ y6_5.toInt ∧ y6_5.toInt ≤ 20) → (20 - y6_5.toInt) < (fu : Int) → wq (fX10_priceOf_L6 N I0 M0 I1 M1 x2 x3 fu y6_4 y6_5) (fun r => True) := by
  intro fu
  induction fu with
  | zero => intro y6_4 y6_5 h_y6_5 hm; exfalso; omega
  | succ fu ih =>
    intro y6_4 y6_5 h_y6_5 hm
    rw [fX10_priceOf_L6.eq_2]
    have l_20 := il_20
    refine wq_le (fun hc_12471 => ?_) (fun hc_12472 => ?_)
    · have b_12473 := i32b y6_4
      exact wq_s trivial
    · have b_12474 := i32b y6_4
      have l_0 := il_0
      exact tt_fX10_priceOf_L16 hN I0 M0 I1 M1 x2 x3 y6_5 _ ⟨by omega, by omega⟩ ⟨by omega, by omega⟩ ⟨by omega, by omega⟩ k_I1 (fun q0 q1 hq0 hq1 => ih q0 q1 hq0 (by omega)) N y6_4 (0 : Int32) ⟨by omega, by omega⟩ (by omega)
set_option maxHeartbeats 4000000 in
theorem tt_fX10_priceOf {N : Nat} (hN : 3000000000 ≤ N) (I0 : Nat → Int32) (M0 : Nat → Nat → Int32) (I1 : Nat → Int32) (M1 : Nat → Nat → Int32) (x2 : Int32) (x3 : Int32) (h_x2 : 0 ≤ x2.toInt ∧ x2.toInt ≤ 5) (h_x3 : 0 ≤ x3.toInt ∧ x3.toInt ≤ 5) (k_I1 : KX1 I1 M1) : wq (fX10_priceOf N I0 M0 I1 M1 x2 x3) (fun r => True) := by
  unfold fX10_priceOf
  have l_0 := il_0
  exact tt_fX10_priceOf_L6 hN I0 M0 I1 M1 x2 x3 ⟨by omega, by omega⟩ ⟨by omega, by omega⟩ k_I1 N (0 : Int32) (0 : Int32) ⟨by omega, by omega⟩ (by omega)
set_option maxHeartbeats 4000000 in
theorem tt_fX10_setBooks_L4 {N : Nat} (hN : 3000000000 ≤ N) (I1 : Nat → Int32) (M1 : Nat → Nat → Int32) (k_I1 : KX1 I1 M1)  : ∀ (fu : Nat) (I0_l4 : (Nat → Int32)) (M0_l4 : (Nat → Nat → Int32)) (y4_2 : Int32) (y4_3 : Int32), (0 ≤ y4_2.toInt ∧ y4_2.toInt ≤ 1) → (0 ≤ y4_3.toInt ∧ y4_3.toInt ≤ 6) → (KX10 I0_l4 M0_l4) → (6 - y4_3.toInt) < (fu : Int) → wq (fX10_setBooks_L4 N I1 M1 fu I0_l4 M0_l4 y4_2 y4_3) (fun r => (0 ≤ r.1.toInt ∧ r.1.toInt ≤ 1) ∧ KX10 r.2.1 r.2.2 ∧ True) := by
  intro fu
  induction fu with
  | zero => intro I0_l4 M0_l4 y4_2 y4_3 h_y4_2 h_y4_3 k_I0_l4 hm; exfalso; omega
  | succ fu ih =>
    intro I0_l4 M0_l4 y4_2 y4_3 h_y4_2 h_y4_3 k_I0_l4 hm
    rw [fX10_setBooks_L4.eq_2]
    have l_6 := il_6
    refine wq_le (fun hc_12790 => ?_) (fun hc_12791 => ?_)
    · refine wq_bz (by omega) ?_
      exact wq_s ⟨(show 0 ≤ y4_2.toInt ∧ y4_2.toInt ≤ 1 from ⟨by omega, by omega⟩), k_I0_l4, trivial⟩
    · refine wq_b (tt_fX1_bookTells hN I1 M1 y4_3 ⟨by omega, by omega⟩ k_I1) (fun r5_q12792 h_r5_q12792 => ?_)
      obtain ⟨h_r5_q12792_0, -⟩ := h_r5_q12792
      have l_0 := il_0
      refine wq_eq (fun hc_12793 => ?_) (fun hc_12794 => ?_)
      · unfold fX10_setBooks_J30
        refine wq_in (n := 6) ⟨by omega, by omega⟩ ?_
        refine wq_v (fun M0_1_q12795 h_M0_1_q12795 => ?_)
        have l_m2 := il_m2
        have k_M0_1_q12795 : KX10 I0_l4 M0_1_q12795 := by rw [h_M0_1_q12795]; exact KX10.sm1 k_I0_l4 ⟨by omega, by omega⟩
        refine wq_eq (fun hc_12796 => ?_) (fun hc_12797 => ?_)
        · refine wq_in (n := 6) ⟨by omega, by omega⟩ ?_
          have t_12798 := KX10.m1 k_M0_1_q12795 y4_3.toNatClampNeg
          have l_m3 := il_m3
          refine wq_eq (fun hc_12799 => ?_) (fun hc_12800 => ?_)
          · have l_1 := il_1
            have t_12802 := ia_add y4_3 (1 : Int32) (by omega) (by omega)
            refine wq_v (fun v4_q12801 h_v4_q12801 => ?_)
            have t_v4_q12801 := congrArg Int32.toInt h_v4_q12801
            exact ih I0_l4 M0_1_q12795 (1 : Int32) v4_q12801 ⟨by omega, by omega⟩ ⟨by omega, by omega⟩ k_M0_1_q12795 (by omega)
          · have l_1 := il_1
            have t_12804 := ia_add y4_3 (1 : Int32) (by omega) (by omega)
            refine wq_v (fun v3_q12803 h_v3_q12803 => ?_)
            have t_v3_q12803 := congrArg Int32.toInt h_v3_q12803
            exact ih I0_l4 M0_1_q12795 (0 : Int32) v3_q12803 ⟨by omega, by omega⟩ ⟨by omega, by omega⟩ k_M0_1_q12795 (by omega)
        · have l_1 := il_1
          have t_12806 := ia_add y4_3 (1 : Int32) (by omega) (by omega)
          refine wq_v (fun v2_q12805 h_v2_q12805 => ?_)
          have t_v2_q12805 := congrArg Int32.toInt h_v2_q12805
          exact ih I0_l4 M0_1_q12795 (1 : Int32) v2_q12805 ⟨by omega, by omega⟩ ⟨by omega, by omega⟩ k_M0_1_q12795 (by omega)
      · unfold fX10_setBooks_J30
        refine wq_in (n := 6) ⟨by omega, by omega⟩ ?_
        refine wq_v (fun M0_1_q12807 h_M0_1_q12807 => ?_)
        have l_m3 := il_m3
        have k_M0_1_q12807 : KX10 I0_l4 M0_1_q12807 := by rw [h_M0_1_q12807]; exact KX10.sm1 k_I0_l4 ⟨by omega, by omega⟩
        refine wq_eq (fun hc_12808 => ?_) (fun hc_12809 => ?_)
        · refine wq_in (n := 6) ⟨by omega, by omega⟩ ?_
          have t_12810 := KX10.m1 k_M0_1_q12807 y4_3.toNatClampNeg
          refine wq_eq (fun hc_12811 => ?_) (fun hc_12812 => ?_)
          · have l_1 := il_1
            have t_12814 := ia_add y4_3 (1 : Int32) (by omega) (by omega)
            refine wq_v (fun v4_q12813 h_v4_q12813 => ?_)
            have t_v4_q12813 := congrArg Int32.toInt h_v4_q12813
            exact ih I0_l4 M0_1_q12807 (1 : Int32) v4_q12813 ⟨by omega, by omega⟩ ⟨by omega, by omega⟩ k_M0_1_q12807 (by omega)
          · have l_1 := il_1
            have t_12816 := ia_add y4_3 (1 : Int32) (by omega) (by omega)
            refine wq_v (fun v3_q12815 h_v3_q12815 => ?_)
            have t_v3_q12815 := congrArg Int32.toInt h_v3_q12815
            exact ih I0_l4 M0_1_q12807 (0 : Int32) v3_q12815 ⟨by omega, by omega⟩ ⟨by omega, by omega⟩ k_M0_1_q12807 (by omega)
        · have l_1 := il_1
          have t_12818 := ia_add y4_3 (1 : Int32) (by omega) (by omega)
          refine wq_v (fun v2_q12817 h_v2_q12817 => ?_)
          have t_v2_q12817 := congrArg Int32.toInt h_v2_q12817
          exact ih I0_l4 M0_1_q12807 (1 : Int32) v2_q12817 ⟨by omega, by omega⟩ ⟨by omega, by omega⟩ k_M0_1_q12807 (by omega)
set_option maxHeartbeats 4000000 in
theorem tt_fX10_setBooks {N : Nat} (hN : 3000000000 ≤ N) (I0 : Nat → Int32) (M0 : Nat → Nat → Int32) (I1 : Nat → Int32) (M1 : Nat → Nat → Int32) (k_I0 : KX10 I0 M0) (k_I1 : KX1 I1 M1) : wq (fX10_setBooks N I0 M0 I1 M1) (fun r => (0 ≤ r.1.toInt ∧ r.1.toInt ≤ 1) ∧ KX10 r.2.1 r.2.2 ∧ True) := by
  unfold fX10_setBooks
  have l_0 := il_0
  exact tt_fX10_setBooks_L4 hN I1 M1 k_I1 N I0 M0 (0 : Int32) (0 : Int32) ⟨by omega, by omega⟩ ⟨by omega, by omega⟩ k_I0 (by omega)
set_option maxHeartbeats 4000000 in
theorem tt_fX10_setPrices_L11 {N : Nat} (hN : 3000000000 ≤ N) (I1 : Nat → Int32) (M1 : Nat → Nat → Int32) (I2 : Nat → Int32) (M2 : Nat → Nat → Int32) (y2_3 : Int32) (g2 : (Nat → Int32) → (Nat → Nat → Int32) → Int32 → Option ((Nat → Int32) × (Nat → Nat → Int32))) (h_y2_3 : 0 ≤ y2_3.toInt ∧ y2_3.toInt ≤ 5) (k_I2 : KX1 I2 M2) (hg2 : ∀ (q0 : (Nat → Int32)) (q1 : (Nat → Nat → Int32)) (q2 : Int32), (0 ≤ q2.toInt ∧ q2.toInt ≤ 6) → (KX10 q0 q1) → (y2_3.toInt < q2.toInt) → wq (g2 q0 q1 q2) (fun r => KX10 r.1 r.2 ∧ True)) : ∀ (fu : Nat) (I0_l11 : (Nat → Int32)) (M0_l11 : (Nat → Nat → Int32)) (y11_4 : Int32), (0 ≤ y11_4.toInt ∧ y11_4.toInt ≤ 6) → (KX10 I0_l11 M0_l11) → (6 - y11_4.toInt) < (fu : Int) → wq (fX10_setPrices_L11 N I1 M1 I2 M2 y2_3 g2 fu I0_l11 M0_l11 y11_4) (fun r => KX10 r.1 r.2 ∧ True) := by
  intro fu
  induction fu with
  | zero => intro I0_l11 M0_l11 y11_4 h_y11_4 k_I0_l11 hm; exfalso; omega
  | succ fu ih =>
    intro I0_l11 M0_l11 y11_4 h_y11_4 k_I0_l11 hm
    rw [fX10_setPrices_L11.eq_2]
    have l_6 := il_6
    refine wq_le (fun hc_13285 => ?_) (fun hc_13286 => ?_)
    · have l_1 := il_1
      have t_13288 := ia_add y2_3 (1 : Int32) (by omega) (by omega)
      refine wq_v (fun v6_q13287 h_v6_q13287 => ?_)
      have t_v6_q13287 := congrArg Int32.toInt h_v6_q13287
      exact hg2 I0_l11 M0_l11 v6_q13287 ⟨by omega, by omega⟩ k_I0_l11 (by omega)
    · refine wq_in (n := 6) ⟨by omega, by omega⟩ ?_
      have t_13289 := KX10.m1 k_I0_l11 y2_3.toNatClampNeg
      have l_m3 := il_m3
      refine wq_eq (fun hc_13290 => ?_) (fun hc_13291 => ?_)
      · refine wq_in (n := 6) ⟨by omega, by omega⟩ ?_
        have t_13292 := KX10.m1 k_I0_l11 y11_4.toNatClampNeg
        refine wq_eq (fun hc_13293 => ?_) (fun hc_13294 => ?_)
        · unfold fX10_setPrices_J46
          have l_1 := il_1
          have l_0 := il_0
          refine wq_eq (fun hc_13295 => ?_) (fun hc_13296 => ?_)
          · exfalso; omega
          · refine wq_b (tt_fX10_priceOf hN I1 M1 I2 M2 y2_3 y11_4 ⟨by omega, by omega⟩ ⟨by omega, by omega⟩ k_I2) (fun r3_q13297 h_r3_q13297 => ?_)
            obtain ⟨-⟩ := h_r3_q13297
            have t_13298 := ia_mul (6 : Int32) (6) il_6 y2_3 (by omega) (by omega)
            have t_13299 := ia_add ((6 : Int32) * y2_3) y11_4 (by omega) (by omega)
            refine wq_in (n := 36) ⟨by omega, by omega⟩ ?_
            refine wq_v (fun M0_4_q13300 h_M0_4_q13300 => ?_)
            have k_M0_4_q13300 : KX10 I0_l11 M0_4_q13300 := by rw [h_M0_4_q13300]; exact KX10.sm0 k_I0_l11
            have t_13302 := ia_add y11_4 (1 : Int32) (by omega) (by omega)
            refine wq_v (fun v5_q13301 h_v5_q13301 => ?_)
            have t_v5_q13301 := congrArg Int32.toInt h_v5_q13301
            exact ih I0_l11 M0_4_q13300 v5_q13301 ⟨by omega, by omega⟩ k_M0_4_q13300 (by omega)
        · unfold fX10_setPrices_J45
          unfold fX10_setPrices_J46
          have l_0 := il_0
          refine wq_eq (fun hc_13303 => ?_) (fun hc_13304 => ?_)
          · have t_13305 := ia_mul (6 : Int32) (6) il_6 y2_3 (by omega) (by omega)
            have t_13306 := ia_add ((6 : Int32) * y2_3) y11_4 (by omega) (by omega)
            refine wq_in (n := 36) ⟨by omega, by omega⟩ ?_
            refine wq_v (fun M0_1_q13307 h_M0_1_q13307 => ?_)
            have k_M0_1_q13307 : KX10 I0_l11 M0_1_q13307 := by rw [h_M0_1_q13307]; exact KX10.sm0 k_I0_l11
            have l_1 := il_1
            have t_13309 := ia_add y11_4 (1 : Int32) (by omega) (by omega)
            refine wq_v (fun v2_q13308 h_v2_q13308 => ?_)
            have t_v2_q13308 := congrArg Int32.toInt h_v2_q13308
            exact ih I0_l11 M0_1_q13307 v2_q13308 ⟨by omega, by omega⟩ k_M0_1_q13307 (by omega)
          · exfalso; omega
      · unfold fX10_setPrices_J45
        unfold fX10_setPrices_J46
        have l_0 := il_0
        refine wq_eq (fun hc_13310 => ?_) (fun hc_13311 => ?_)
        · have t_13312 := ia_mul (6 : Int32) (6) il_6 y2_3 (by omega) (by omega)
          have t_13313 := ia_add ((6 : Int32) * y2_3) y11_4 (by omega) (by omega)
          refine wq_in (n := 36) ⟨by omega, by omega⟩ ?_
          refine wq_v (fun M0_1_q13314 h_M0_1_q13314 => ?_)
          have k_M0_1_q13314 : KX10 I0_l11 M0_1_q13314 := by rw [h_M0_1_q13314]; exact KX10.sm0 k_I0_l11
          have l_1 := il_1
          have t_13316 := ia_add y11_4 (1 : Int32) (by omega) (by omega)
          refine wq_v (fun v2_q13315 h_v2_q13315 => ?_)
          have t_v2_q13315 := congrArg Int32.toInt h_v2_q13315
          exact ih I0_l11 M0_1_q13314 v2_q13315 ⟨by omega, by omega⟩ k_M0_1_q13314 (by omega)
        · exfalso; omega
set_option maxHeartbeats 4000000 in
theorem tt_fX10_setPrices_L2 {N : Nat} (hN : 3000000000 ≤ N) (I1 : Nat → Int32) (M1 : Nat → Nat → Int32) (I2 : Nat → Int32) (M2 : Nat → Nat → Int32) (k_I2 : KX1 I2 M2)  : ∀ (fu : Nat) (I0_l2 : (Nat → Int32)) (M0_l2 : (Nat → Nat → Int32)) (y2_3 : Int32), (0 ≤ y2_3.toInt ∧ y2_3.toInt ≤ 6) → (KX10 I0_l2 M0_l2) → (6 - y2_3.toInt) < (fu : Int) → wq (fX10_setPrices_L2 N I1 M1 I2 M2 fu I0_l2 M0_l2 y2_3) (fun r => KX10 r.1 r.2 ∧ True) := by
  intro fu
  induction fu with
  | zero => intro I0_l2 M0_l2 y2_3 h_y2_3 k_I0_l2 hm; exfalso; omega
  | succ fu ih =>
    intro I0_l2 M0_l2 y2_3 h_y2_3 k_I0_l2 hm
    rw [fX10_setPrices_L2.eq_2]
    have l_6 := il_6
    refine wq_le (fun hc_13317 => ?_) (fun hc_13318 => ?_)
    · exact wq_s ⟨k_I0_l2, trivial⟩
    · have l_0 := il_0
      exact tt_fX10_setPrices_L11 hN I1 M1 I2 M2 y2_3 _ ⟨by omega, by omega⟩ k_I2 (fun q0 q1 q2 hq0 hq1 hq2 => ih q0 q1 q2 hq0 hq1 (by omega)) N I0_l2 M0_l2 (0 : Int32) ⟨by omega, by omega⟩ k_I0_l2 (by omega)
set_option maxHeartbeats 4000000 in
theorem tt_fX10_setPrices {N : Nat} (hN : 3000000000 ≤ N) (I0 : Nat → Int32) (M0 : Nat → Nat → Int32) (I1 : Nat → Int32) (M1 : Nat → Nat → Int32) (I2 : Nat → Int32) (M2 : Nat → Nat → Int32) (k_I0 : KX10 I0 M0) (k_I2 : KX1 I2 M2) : wq (fX10_setPrices N I0 M0 I1 M1 I2 M2) (fun r => KX10 r.1 r.2 ∧ True) := by
  unfold fX10_setPrices
  have l_0 := il_0
  exact tt_fX10_setPrices_L2 hN I1 M1 I2 M2 k_I2 N I0 M0 (0 : Int32) ⟨by omega, by omega⟩ k_I0 (by omega)
set_option maxHeartbeats 4000000 in
theorem tt_fX10_comesFrom_L5 {N : Nat} (hN : 3000000000 ≤ N) (I0 : Nat → Int32) (M0 : Nat → Nat → Int32) (x1 : Int32) (x2 : Int32) (h_x1 : 0 ≤ x1.toInt ∧ x1.toInt ≤ 5) (h_x2 : 0 ≤ x2.toInt ∧ x2.toInt ≤ 5) (k_I0 : KX10 I0 M0)  : ∀ (fu : Nat) (y5_3 : Int32) (y5_4 : Int32), (-3 ≤ y5_3.toInt ∧ y5_3.toInt ≤ 5) → (0 ≤ y5_4.toInt ∧ y5_4.toInt ≤ 6) → (6 - y5_4.toInt) < (fu : Int) → wq (fX10_comesFrom_L5 N I0 M0 x1 x2 fu y5_3 y5_4) (fun r => (0 ≤ r.toInt ∧ r.toInt ≤ 1) ∧ True) := by
  intro fu
  induction fu with
  | zero => intro y5_3 y5_4 h_y5_3 h_y5_4 hm; exfalso; omega
  | succ fu ih =>
    intro y5_3 y5_4 h_y5_3 h_y5_4 hm
    rw [fX10_comesFrom_L5.eq_2]
    have l_6 := il_6
    refine wq_le (fun hc_13419 => ?_) (fun hc_13420 => ?_)
    · have l_0 := il_0
      exact wq_s ⟨(show 0 ≤ (0 : Int32).toInt ∧ (0 : Int32).toInt ≤ 1 from ⟨by omega, by omega⟩), trivial⟩
    · have l_0 := il_0
      refine wq_lt (fun hc_13421 => ?_) (fun hc_13422 => ?_)
      · exact wq_s ⟨(show 0 ≤ (0 : Int32).toInt ∧ (0 : Int32).toInt ≤ 1 from ⟨by omega, by omega⟩), trivial⟩
      · refine wq_eq (fun hc_13423 => ?_) (fun hc_13424 => ?_)
        · have l_1 := il_1
          exact wq_s ⟨(show 0 ≤ (1 : Int32).toInt ∧ (1 : Int32).toInt ≤ 1 from ⟨by omega, by omega⟩), trivial⟩
        · refine wq_in (n := 6) ⟨by omega, by omega⟩ ?_
          have t_13426 := KX10.m1 k_I0 y5_3.toNatClampNeg
          refine wq_v (fun v1_q13425 h_v1_q13425 => ?_)
          have t_v1_q13425 := congrArg Int32.toInt h_v1_q13425
          have l_1 := il_1
          have t_13428 := ia_add y5_4 (1 : Int32) (by omega) (by omega)
          refine wq_v (fun v2_q13427 h_v2_q13427 => ?_)
          have t_v2_q13427 := congrArg Int32.toInt h_v2_q13427
          exact ih v1_q13425 v2_q13427 ⟨by omega, by omega⟩ ⟨by omega, by omega⟩ (by omega)
set_option maxHeartbeats 4000000 in
theorem tt_fX10_comesFrom {N : Nat} (hN : 3000000000 ≤ N) (I0 : Nat → Int32) (M0 : Nat → Nat → Int32) (x1 : Int32) (x2 : Int32) (h_x1 : 0 ≤ x1.toInt ∧ x1.toInt ≤ 5) (h_x2 : 0 ≤ x2.toInt ∧ x2.toInt ≤ 5) (k_I0 : KX10 I0 M0) : wq (fX10_comesFrom N I0 M0 x1 x2) (fun r => (0 ≤ r.toInt ∧ r.toInt ≤ 1) ∧ True) := by
  unfold fX10_comesFrom
  have l_0 := il_0
  exact tt_fX10_comesFrom_L5 hN I0 M0 x1 x2 ⟨by omega, by omega⟩ ⟨by omega, by omega⟩ k_I0 N x1 (0 : Int32) ⟨by omega, by omega⟩ ⟨by omega, by omega⟩ (by omega)
set_option maxHeartbeats 4000000 in
theorem tt_fX10_holds {N : Nat} (hN : 3000000000 ≤ N) (I0 : Nat → Int32) (M0 : Nat → Nat → Int32) (x1 : Int32) (h_x1 : 0 ≤ x1.toInt ∧ x1.toInt ≤ 5) (k_I0 : KX10 I0 M0) : wq (fX10_holds N I0 M0 x1) (fun r => (0 ≤ r.toInt ∧ r.toInt ≤ 1) ∧ True) := by
  unfold fX10_holds
  refine wq_in (n := 6) ⟨by omega, by omega⟩ ?_
  have t_13447 := KX10.m2 k_I0 x1.toNatClampNeg
  have l_m2 := il_m2
  refine wq_eq (fun hc_13448 => ?_) (fun hc_13449 => ?_)
  · have l_0 := il_0
    exact wq_s ⟨(show 0 ≤ (0 : Int32).toInt ∧ (0 : Int32).toInt ≤ 1 from ⟨by omega, by omega⟩), trivial⟩
  · have l_1 := il_1
    exact wq_s ⟨(show 0 ≤ (1 : Int32).toInt ∧ (1 : Int32).toInt ≤ 1 from ⟨by omega, by omega⟩), trivial⟩
set_option maxHeartbeats 4000000 in
theorem tt_fX10_parentOf {N : Nat} (hN : 3000000000 ≤ N) (I0 : Nat → Int32) (M0 : Nat → Nat → Int32) (x1 : Int32) (h_x1 : 0 ≤ x1.toInt ∧ x1.toInt ≤ 5) (k_I0 : KX10 I0 M0) : wq (fX10_parentOf N I0 M0 x1) (fun r => (-2 ≤ r.toInt ∧ r.toInt ≤ 5) ∧ True) := by
  unfold fX10_parentOf
  refine wq_in (n := 6) ⟨by omega, by omega⟩ ?_
  have t_13456 := KX10.m2 k_I0 x1.toNatClampNeg
  exact wq_s ⟨(show -2 ≤ (M0 2 x1.toNatClampNeg).toInt ∧ (M0 2 x1.toNatClampNeg).toInt ≤ 5 from ⟨by omega, by omega⟩), trivial⟩
set_option maxHeartbeats 4000000 in
theorem tt_fX10_isSlip {N : Nat} (hN : 3000000000 ≤ N) (I0 : Nat → Int32) (M0 : Nat → Nat → Int32) (x1 : Int32) (x2 : Int32) (x3 : Int32) (x4 : Int32) (h_x1 : 0 ≤ x1.toInt ∧ x1.toInt ≤ 389) : wq (fX10_isSlip N I0 M0 x1 x2 x3 x4) (fun r => (0 ≤ r.toInt ∧ r.toInt ≤ 1) ∧ True) := by
  unfold fX10_isSlip
  have b_13595 := i32b x2
  refine wq_b (tt_fX4_misreading hN I0 M0 x1 x2 ⟨by omega, by omega⟩) (fun r1_q13596 h_r1_q13596 => ?_)
  obtain ⟨h_r1_q13596_0, -⟩ := h_r1_q13596
  have l_1 := il_1
  refine wq_eq (fun hc_13597 => ?_) (fun hc_13598 => ?_)
  · have l_30 := il_30
    have t_13599 := ia_rem x1 (30 : Int32) 30 il_30 (by decide) (by omega)
    have b_13600 := i32b x3
    refine wq_eq (fun hc_13601 => ?_) (fun hc_13602 => ?_)
    · have t_13603 := ia_rem2 x2 (30 : Int32) 30 il_30 (by decide)
      have b_13604 := i32b x4
      refine wq_eq (fun hc_13605 => ?_) (fun hc_13606 => ?_)
      · exact wq_s ⟨(show 0 ≤ (1 : Int32).toInt ∧ (1 : Int32).toInt ≤ 1 from ⟨by omega, by omega⟩), trivial⟩
      · have l_0 := il_0
        exact wq_s ⟨(show 0 ≤ (0 : Int32).toInt ∧ (0 : Int32).toInt ≤ 1 from ⟨by omega, by omega⟩), trivial⟩
    · have l_0 := il_0
      exact wq_s ⟨(show 0 ≤ (0 : Int32).toInt ∧ (0 : Int32).toInt ≤ 1 from ⟨by omega, by omega⟩), trivial⟩
  · have l_2 := il_2
    refine wq_eq (fun hc_13607 => ?_) (fun hc_13608 => ?_)
    · have l_30 := il_30
      have t_13609 := ia_div x1 (30 : Int32) 30 il_30 (by decide) (by omega)
      have b_13610 := i32b x3
      refine wq_eq (fun hc_13611 => ?_) (fun hc_13612 => ?_)
      · have t_13613 := i32b x2
        have t_13614 := ia_div2 x2 (30 : Int32) 30 il_30 (by decide)
        have b_13615 := i32b x4
        refine wq_eq (fun hc_13616 => ?_) (fun hc_13617 => ?_)
        · exact wq_s ⟨(show 0 ≤ (1 : Int32).toInt ∧ (1 : Int32).toInt ≤ 1 from ⟨by omega, by omega⟩), trivial⟩
        · have l_0 := il_0
          exact wq_s ⟨(show 0 ≤ (0 : Int32).toInt ∧ (0 : Int32).toInt ≤ 1 from ⟨by omega, by omega⟩), trivial⟩
      · have l_0 := il_0
        exact wq_s ⟨(show 0 ≤ (0 : Int32).toInt ∧ (0 : Int32).toInt ≤ 1 from ⟨by omega, by omega⟩), trivial⟩
    · have l_0 := il_0
      exact wq_s ⟨(show 0 ≤ (0 : Int32).toInt ∧ (0 : Int32).toInt ≤ 1 from ⟨by omega, by omega⟩), trivial⟩
set_option maxHeartbeats 4000000 in
theorem tt_fX10_slipsOf_L16 {N : Nat} (hN : 3000000000 ≤ N) (I0 : Nat → Int32) (M0 : Nat → Nat → Int32) (I1 : Nat → Int32) (M1 : Nat → Nat → Int32) (I2 : Nat → Int32) (M2 : Nat → Nat → Int32) (x3 : Int32) (x4 : Int32) (x5 : Int32) (y6_7 : Int32) (g6 : Int32 → Int32 → Option (Int32)) (h_x3 : 0 ≤ x3.toInt ∧ x3.toInt ≤ 5) (h_y6_7 : 0 ≤ y6_7.toInt ∧ y6_7.toInt ≤ 19) (k_I0 : KX10 I0 M0) (k_I2 : KX1 I2 M2) (hr_4 : 0 ≤ (M0 2 x3.toNatClampNeg).toInt) (hg6 : ∀ (q0 : Int32) (q1 : Int32), (0 ≤ q1.toInt ∧ q1.toInt ≤ 20) → (y6_7.toInt < q1.toInt) → wq (g6 q0 q1) (fun r => True)) : ∀ (fu : Nat) (y16_6 : Int32) (y16_8 : Int32), (0 ≤ y16_8.toInt ∧ y16_8.toInt ≤ 21) → (21 - y16_8.toInt) < (fu : Int) → wq (fX10_slipsOf_L16 N I0 M0 I1 M1 I2 M2 x3 x4 x5 y6_7 g6 fu y16_6 y16_8) (fun r => True) := by
  intro fu
  induction fu with
  | zero => intro y16_6 y16_8 h_y16_8 hm; exfalso; omega
  | succ fu ih =>
    intro y16_6 y16_8 h_y16_8 hm
    rw [fX10_slipsOf_L16.eq_2]
    have l_21 := il_21
    refine wq_le (fun hc_14387 => ?_) (fun hc_14388 => ?_)
    · have l_1 := il_1
      have t_14390 := ia_add y6_7 (1 : Int32) (by omega) (by omega)
      refine wq_v (fun v1_q14389 h_v1_q14389 => ?_)
      have t_v1_q14389 := congrArg Int32.toInt h_v1_q14389
      have b_14391 := i32b y16_6
      exact hg6 y16_6 v1_q14389 ⟨by omega, by omega⟩ (by omega)
    · have l_20 := il_20
      have t_14392 := ia_mul (20 : Int32) (20) il_20 x3 (by omega) (by omega)
      have t_14393 := ia_add ((20 : Int32) * x3) y6_7 (by omega) (by omega)
      refine wq_b (tt_fX1_degreeOf hN I2 M2 (((20 : Int32) * x3) + y6_7) y16_8 ⟨by omega, by omega⟩ ⟨by omega, by omega⟩ k_I2) (fun r2_q14394 h_r2_q14394 => ?_)
      obtain ⟨h_r2_q14394_0, h_r2_q14394_1, -⟩ := h_r2_q14394
      refine wq_in (n := 6) ⟨by omega, by omega⟩ ?_
      have t_14395 := KX10.m2 k_I0 x3.toNatClampNeg
      have t_14396 := ia_mul (20 : Int32) (20) il_20 (M0 2 x3.toNatClampNeg) (by omega) (by omega)
      have t_14397 := ia_add ((20 : Int32) * (M0 2 x3.toNatClampNeg)) y6_7 (by omega) (by omega)
      refine wq_b (tt_fX1_degreeOf hN I2 M2 (((20 : Int32) * (M0 2 x3.toNatClampNeg)) + y6_7) y16_8 ⟨by omega, by omega⟩ ⟨by omega, by omega⟩ k_I2) (fun r3_q14398 h_r3_q14398 => ?_)
      obtain ⟨h_r3_q14398_0, h_r3_q14398_1, -⟩ := h_r3_q14398
      have l_m1 := il_m1
      refine wq_eq (fun hc_14399 => ?_) (fun hc_14400 => ?_)
      · have l_1 := il_1
        have t_14402 := ia_add y16_8 (1 : Int32) (by omega) (by omega)
        refine wq_v (fun v4_q14401 h_v4_q14401 => ?_)
        have t_v4_q14401 := congrArg Int32.toInt h_v4_q14401
        have b_14403 := i32b y16_6
        exact ih y16_6 v4_q14401 ⟨by omega, by omega⟩ (by omega)
      · refine wq_eq (fun hc_14404 => ?_) (fun hc_14405 => ?_)
        · have l_1 := il_1
          have t_14407 := ia_add y16_8 (1 : Int32) (by omega) (by omega)
          refine wq_v (fun v5_q14406 h_v5_q14406 => ?_)
          have t_v5_q14406 := congrArg Int32.toInt h_v5_q14406
          have b_14408 := i32b y16_6
          exact ih y16_6 v5_q14406 ⟨by omega, by omega⟩ (by omega)
        · have b_14409 := i32b x4
          have b_14410 := i32b x5
          refine wq_b (tt_fX10_isSlip hN I1 M1 r2_q14394 r3_q14398 x4 x5 ⟨by omega, by omega⟩) (fun r6_q14411 h_r6_q14411 => ?_)
          obtain ⟨h_r6_q14411_0, -⟩ := h_r6_q14411
          have l_0 := il_0
          refine wq_eq (fun hc_14412 => ?_) (fun hc_14413 => ?_)
          · have l_1 := il_1
            have t_14415 := ia_add y16_8 (1 : Int32) (by omega) (by omega)
            refine wq_v (fun v7_q14414 h_v7_q14414 => ?_)
            have t_v7_q14414 := congrArg Int32.toInt h_v7_q14414
            have b_14416 := i32b y16_6
            exact ih y16_6 v7_q14414 ⟨by omega, by omega⟩ (by omega)
          · have b_14418 := i32b y16_6
            have l_1 := il_1
            refine wq_v (fun v8_q14417 h_v8_q14417 => ?_)
            have t_v8_q14417 := congrArg Int32.toInt h_v8_q14417
            have t_14420 := ia_add y16_8 (1 : Int32) (by omega) (by omega)
            refine wq_v (fun v9_q14419 h_v9_q14419 => ?_)
            have t_v9_q14419 := congrArg Int32.toInt h_v9_q14419
            have b_14421 := i32b v8_q14417
            exact ih v8_q14417 v9_q14419 ⟨by omega, by omega⟩ (by omega)
set_option maxHeartbeats 4000000 in
theorem tt_fX10_slipsOf_L6 {N : Nat} (hN : 3000000000 ≤ N) (I0 : Nat → Int32) (M0 : Nat → Nat → Int32) (I1 : Nat → Int32) (M1 : Nat → Nat → Int32) (I2 : Nat → Int32) (M2 : Nat → Nat → Int32) (x3 : Int32) (x4 : Int32) (x5 : Int32) (h_x3 : 0 ≤ x3.toInt ∧ x3.toInt ≤ 5) (k_I0 : KX10 I0 M0) (k_I2 : KX1 I2 M2) (hr_3 : 0 ≤ (M0 2 x3.toNatClampNeg).toInt)  : ∀ (fu : Nat) (y6_6 : Int32) (y6_7 : Int32), (0 ≤ y6_7.toInt ∧ y6_7.toInt ≤ 20) → (20 - y6_7.toInt) < (fu : Int) → wq (fX10_slipsOf_L6 N I0 M0 I1 M1 I2 M2 x3 x4 x5 fu y6_6 y6_7) (fun r => True) := by
  intro fu
  induction fu with
  | zero => intro y6_6 y6_7 h_y6_7 hm; exfalso; omega
  | succ fu ih =>
    intro y6_6 y6_7 h_y6_7 hm
    rw [fX10_slipsOf_L6.eq_2]
    have l_20 := il_20
    refine wq_le (fun hc_14422 => ?_) (fun hc_14423 => ?_)
    · have b_14424 := i32b y6_6
      exact wq_s trivial
    · have b_14425 := i32b x4
      have b_14426 := i32b x5
      have b_14427 := i32b y6_6
      have l_0 := il_0
      exact tt_fX10_slipsOf_L16 hN I0 M0 I1 M1 I2 M2 x3 x4 x5 y6_7 _ ⟨by omega, by omega⟩ ⟨by omega, by omega⟩ k_I0 k_I2 (by omega) (fun q0 q1 hq0 hq1 => ih q0 q1 hq0 (by omega)) N y6_6 (0 : Int32) ⟨by omega, by omega⟩ (by omega)
set_option maxHeartbeats 4000000 in
theorem tt_fX10_slipsOf {N : Nat} (hN : 3000000000 ≤ N) (I0 : Nat → Int32) (M0 : Nat → Nat → Int32) (I1 : Nat → Int32) (M1 : Nat → Nat → Int32) (I2 : Nat → Int32) (M2 : Nat → Nat → Int32) (x3 : Int32) (x4 : Int32) (x5 : Int32) (h_x3 : 0 ≤ x3.toInt ∧ x3.toInt ≤ 5) (k_I0 : KX10 I0 M0) (k_I2 : KX1 I2 M2) (hr_3 : 0 ≤ (M0 2 x3.toNatClampNeg).toInt) : wq (fX10_slipsOf N I0 M0 I1 M1 I2 M2 x3 x4 x5) (fun r => True) := by
  unfold fX10_slipsOf
  have b_14428 := i32b x4
  have b_14429 := i32b x5
  have l_0 := il_0
  exact tt_fX10_slipsOf_L6 hN I0 M0 I1 M1 I2 M2 x3 x4 x5 ⟨by omega, by omega⟩ k_I0 k_I2 (by omega) N (0 : Int32) (0 : Int32) ⟨by omega, by omega⟩ (by omega)
set_option maxHeartbeats 4000000 in
theorem tt_fX10_howManySlips_L6 {N : Nat} (hN : 3000000000 ≤ N) (I0 : Nat → Int32) (M0 : Nat → Nat → Int32) (I1 : Nat → Int32) (M1 : Nat → Nat → Int32) (I2 : Nat → Int32) (M2 : Nat → Nat → Int32) (x3 : Int32) (x4 : Int32) (k_I0 : KX10 I0 M0) (k_I2 : KX1 I2 M2)  : ∀ (fu : Nat) (y6_5 : Int32) (y6_6 : Int32), (0 ≤ y6_6.toInt ∧ y6_6.toInt ≤ 6) → (6 - y6_6.toInt) < (fu : Int) → wq (fX10_howManySlips_L6 N I0 M0 I1 M1 I2 M2 x3 x4 fu y6_5 y6_6) (fun r => True) := by
  intro fu
  induction fu with
  | zero => intro y6_5 y6_6 h_y6_6 hm; exfalso; omega
  | succ fu ih =>
    intro y6_5 y6_6 h_y6_6 hm
    rw [fX10_howManySlips_L6.eq_2]
    have l_6 := il_6
    refine wq_le (fun hc_14644 => ?_) (fun hc_14645 => ?_)
    · have b_14646 := i32b y6_5
      exact wq_s trivial
    · refine wq_in (n := 6) ⟨by omega, by omega⟩ ?_
      have t_14647 := KX10.m2 k_I0 y6_6.toNatClampNeg
      have l_0 := il_0
      refine wq_lt (fun hc_14648 => ?_) (fun hc_14649 => ?_)
      · have l_1 := il_1
        have t_14651 := ia_add y6_6 (1 : Int32) (by omega) (by omega)
        refine wq_v (fun v1_q14650 h_v1_q14650 => ?_)
        have t_v1_q14650 := congrArg Int32.toInt h_v1_q14650
        have b_14652 := i32b y6_5
        exact ih y6_5 v1_q14650 ⟨by omega, by omega⟩ (by omega)
      · have b_14653 := i32b x3
        have b_14654 := i32b x4
        refine wq_b (tt_fX10_slipsOf hN I0 M0 I1 M1 I2 M2 y6_6 x3 x4 ⟨by omega, by omega⟩ k_I0 k_I2 (by omega)) (fun r2_q14655 h_r2_q14655 => ?_)
        obtain ⟨-⟩ := h_r2_q14655
        have b_14657 := i32b y6_5
        have b_14658 := i32b r2_q14655
        refine wq_v (fun v3_q14656 h_v3_q14656 => ?_)
        have t_v3_q14656 := congrArg Int32.toInt h_v3_q14656
        have l_1 := il_1
        have t_14660 := ia_add y6_6 (1 : Int32) (by omega) (by omega)
        refine wq_v (fun v4_q14659 h_v4_q14659 => ?_)
        have t_v4_q14659 := congrArg Int32.toInt h_v4_q14659
        have b_14661 := i32b v3_q14656
        exact ih v3_q14656 v4_q14659 ⟨by omega, by omega⟩ (by omega)
set_option maxHeartbeats 4000000 in
theorem tt_fX10_howManySlips {N : Nat} (hN : 3000000000 ≤ N) (I0 : Nat → Int32) (M0 : Nat → Nat → Int32) (I1 : Nat → Int32) (M1 : Nat → Nat → Int32) (I2 : Nat → Int32) (M2 : Nat → Nat → Int32) (x3 : Int32) (x4 : Int32) (k_I0 : KX10 I0 M0) (k_I2 : KX1 I2 M2) : wq (fX10_howManySlips N I0 M0 I1 M1 I2 M2 x3 x4) (fun r => True) := by
  unfold fX10_howManySlips
  have b_14662 := i32b x3
  have b_14663 := i32b x4
  have l_0 := il_0
  exact tt_fX10_howManySlips_L6 hN I0 M0 I1 M1 I2 M2 x3 x4 k_I0 k_I2 N (0 : Int32) (0 : Int32) ⟨by omega, by omega⟩ (by omega)
set_option maxHeartbeats 4000000 in
theorem tt_fX11_feed {N : Nat} (hN : 3000000000 ≤ N) (I0 : Nat → Int32) (M0 : Nat → Nat → Int32) (x1 : Int32) (x2 : Int32) (x3 : Int32) (x4 : Int32) (x5 : Int32) (k_I0 : KX11 I0 M0) : wq (fX11_feed N I0 M0 x1 x2 x3 x4 x5) (fun r => (-1 ≤ r.1.toInt ∧ r.1.toInt ≤ 600) ∧ KX11 r.2.1 r.2.2 ∧ True) := by
  unfold fX11_feed
  refine wq_b (tt_fX9_hasRoom hN I0 M0 (KX11.s_X9_0_0 k_I0)) (fun r1_q14808 h_r1_q14808 => ?_)
  obtain ⟨h_r1_q14808_0, -⟩ := h_r1_q14808
  have l_0 := il_0
  refine wq_eq (fun hc_14809 => ?_) (fun hc_14810 => ?_)
  · have l_m1 := il_m1
    exact wq_s ⟨(show -1 ≤ (-1 : Int32).toInt ∧ (-1 : Int32).toInt ≤ 600 from ⟨by omega, by omega⟩), k_I0, trivial⟩
  · have b_14811 := i32b x1
    refine wq_b (tt_fX9_put hN I0 M0 x1 (KX11.s_X9_0_0 k_I0)) (fun r2_q14812 h_r2_q14812 => ?_)
    obtain ⟨h_r2_q14812_0, -⟩ := h_r2_q14812
    refine wq_v (fun I0_3_q14813 h_I0_3_q14813 => ?_)
    refine wq_v (fun M0_4_q14814 h_M0_4_q14814 => ?_)
    have k_M0_4_q14814 : KX11 I0_3_q14813 M0_4_q14814 := by rw [h_I0_3_q14813, h_M0_4_q14814]; exact KX11.p_X9_0_0 k_I0 h_r2_q14812_0
    have b_14815 := i32b x2
    refine wq_b (tt_fX9_put hN I0_3_q14813 M0_4_q14814 x2 (KX11.s_X9_0_0 k_M0_4_q14814)) (fun r5_q14816 h_r5_q14816 => ?_)
    obtain ⟨h_r5_q14816_0, -⟩ := h_r5_q14816
    refine wq_v (fun I0_6_q14817 h_I0_6_q14817 => ?_)
    refine wq_v (fun M0_7_q14818 h_M0_7_q14818 => ?_)
    have k_M0_7_q14818 : KX11 I0_6_q14817 M0_7_q14818 := by rw [h_I0_6_q14817, h_M0_7_q14818]; exact KX11.p_X9_0_0 k_M0_4_q14814 h_r5_q14816_0
    have b_14819 := i32b x3
    refine wq_b (tt_fX9_put hN I0_6_q14817 M0_7_q14818 x3 (KX11.s_X9_0_0 k_M0_7_q14818)) (fun r8_q14820 h_r8_q14820 => ?_)
    obtain ⟨h_r8_q14820_0, -⟩ := h_r8_q14820
    refine wq_v (fun I0_9_q14821 h_I0_9_q14821 => ?_)
    refine wq_v (fun M0_10_q14822 h_M0_10_q14822 => ?_)
    have k_M0_10_q14822 : KX11 I0_9_q14821 M0_10_q14822 := by rw [h_I0_9_q14821, h_M0_10_q14822]; exact KX11.p_X9_0_0 k_M0_7_q14818 h_r8_q14820_0
    have b_14823 := i32b x4
    refine wq_b (tt_fX9_put hN I0_9_q14821 M0_10_q14822 x4 (KX11.s_X9_0_0 k_M0_10_q14822)) (fun r11_q14824 h_r11_q14824 => ?_)
    obtain ⟨h_r11_q14824_0, -⟩ := h_r11_q14824
    refine wq_v (fun I0_12_q14825 h_I0_12_q14825 => ?_)
    refine wq_v (fun M0_13_q14826 h_M0_13_q14826 => ?_)
    have k_M0_13_q14826 : KX11 I0_12_q14825 M0_13_q14826 := by rw [h_I0_12_q14825, h_M0_13_q14826]; exact KX11.p_X9_0_0 k_M0_10_q14822 h_r11_q14824_0
    have b_14827 := i32b x5
    refine wq_b (tt_fX9_put hN I0_12_q14825 M0_13_q14826 x5 (KX11.s_X9_0_0 k_M0_13_q14826)) (fun r14_q14828 h_r14_q14828 => ?_)
    obtain ⟨h_r14_q14828_0, -⟩ := h_r14_q14828
    refine wq_v (fun I0_15_q14829 h_I0_15_q14829 => ?_)
    refine wq_v (fun M0_16_q14830 h_M0_16_q14830 => ?_)
    have k_M0_16_q14830 : KX11 I0_15_q14829 M0_16_q14830 := by rw [h_I0_15_q14829, h_M0_16_q14830]; exact KX11.p_X9_0_0 k_M0_13_q14826 h_r14_q14828_0
    have t_14831 := KX11.i0 k_M0_16_q14830
    exact wq_s ⟨(show -1 ≤ (I0_15_q14829 0).toInt ∧ (I0_15_q14829 0).toInt ≤ 600 from ⟨by omega, by omega⟩), k_M0_16_q14830, trivial⟩
set_option maxHeartbeats 4000000 in
theorem tt_fX11_within {N : Nat} (hN : 3000000000 ≤ N) (x0 : Int32) (x1 : Int32) (x2 : Int32)  : wq (fX11_within N x0 x1 x2) (fun r => (r.toInt = 0 ∨ (r.toInt = 1 ∧ x1.toInt ≤ x0.toInt ∧ x0.toInt ≤ x2.toInt)) ∧ (0 ≤ r.toInt ∧ r.toInt ≤ 1) ∧ True) := by
  unfold fX11_within
  have b_14874 := i32b x0
  have b_14875 := i32b x1
  refine wq_lt (fun hc_14876 => ?_) (fun hc_14877 => ?_)
  · have b_14878 := i32b x2
    have l_0 := il_0
    exact wq_s ⟨(show ((0 : Int32).toInt = 0 ∨ ((0 : Int32).toInt = 1 ∧ x1.toInt ≤ x0.toInt ∧ x0.toInt ≤ x2.toInt)) from by omega), (show 0 ≤ (0 : Int32).toInt ∧ (0 : Int32).toInt ≤ 1 from ⟨by omega, by omega⟩), trivial⟩
  · have b_14879 := i32b x2
    refine wq_lt (fun hc_14880 => ?_) (fun hc_14881 => ?_)
    · have l_0 := il_0
      exact wq_s ⟨(show ((0 : Int32).toInt = 0 ∨ ((0 : Int32).toInt = 1 ∧ x1.toInt ≤ x0.toInt ∧ x0.toInt ≤ x2.toInt)) from by omega), (show 0 ≤ (0 : Int32).toInt ∧ (0 : Int32).toInt ≤ 1 from ⟨by omega, by omega⟩), trivial⟩
    · have l_1 := il_1
      exact wq_s ⟨(show ((1 : Int32).toInt = 0 ∨ ((1 : Int32).toInt = 1 ∧ x1.toInt ≤ x0.toInt ∧ x0.toInt ≤ x2.toInt)) from by omega), (show 0 ≤ (1 : Int32).toInt ∧ (1 : Int32).toInt ≤ 1 from ⟨by omega, by omega⟩), trivial⟩
theorem tt_fX11_allow0 (N : Nat) : wq (fX11_allow N (0 : Int32)) (qS 2 (fun _ => False)) := ⟨.inl 2, rfl, Or.inr ⟨rfl, by decide⟩⟩
theorem tt_fX11_allow {N : Nat} (hN : 3000000000 ≤ N) (x0 : Int32)  : wq (fX11_allow N x0) (qS 2 (fun r => x0.toInt ≠ 0 ∧ True)) := by
  unfold fX11_allow
  have l_0 := il_0
  refine wq_eq (fun hc => ?_) (fun hc => ?_)
  · exact wq_s (show qE 2 2 from by unfold qE; omega)
  · exact wq_ok (wq_s ⟨by omega, trivial⟩)
set_option maxHeartbeats 4000000 in
theorem tt_fX11_house {N : Nat} (hN : 3000000000 ≤ N) (I0 : Nat → Int32) (M0 : Nat → Nat → Int32) (x1 : Int32) (k_I0 : KX11 I0 M0) : wq (fX11_house N I0 M0 x1) (qS 2 (fun r => KX11 r.2.1 r.2.2 ∧ True)) := by
  unfold fX11_house
  have b_14984 := i32b x1
  have l_0 := il_0
  have t_14985 := KX11.i0 k_I0
  refine wq_b (tt_fX11_within hN x1 (0 : Int32) (I0 0)) (fun r1_q14986 h_r1_q14986 => ?_)
  obtain ⟨h_r1_q14986_0, h_r1_q14986_1, -⟩ := h_r1_q14986
  refine wq_xb (tt_fX11_allow hN r1_q14986) (by decide) (fun r2_q14987 h_r2_q14987 => ?_)
  obtain ⟨h_r2_q14987_0, -⟩ := h_r2_q14987
  refine wq_ok ?_
  refine wq_b (tt_fX9_begin hN I0 M0 x1 ⟨by omega, by omega⟩ (KX11.s_X9_0_0 k_I0)) (fun r3_q14988 h_r3_q14988 => ?_)
  obtain ⟨h_r3_q14988_0, -⟩ := h_r3_q14988
  refine wq_v (fun I0_4_q14989 h_I0_4_q14989 => ?_)
  refine wq_v (fun M0_5_q14990 h_M0_5_q14990 => ?_)
  have k_M0_5_q14990 : KX11 I0_4_q14989 M0_5_q14990 := by rw [h_I0_4_q14989, h_M0_5_q14990]; exact KX11.p_X9_0_0 k_I0 h_r3_q14988_0
  refine wq_b (tt_fX5_copyFrom hN (wb_sh I0_4_q14989 11) (wb_sh M0_5_q14990 7) (wb_sh I0_4_q14989 9) (wb_sh M0_5_q14990 1) (KX11.s_X5_11_7 k_M0_5_q14990) (KX11.s_X5_9_1 k_M0_5_q14990)) (fun r6_q14991 h_r6_q14991 => ?_)
  obtain ⟨h_r6_q14991_0, -⟩ := h_r6_q14991
  refine wq_v (fun I0_7_q14992 h_I0_7_q14992 => ?_)
  refine wq_v (fun M0_8_q14993 h_M0_8_q14993 => ?_)
  have k_M0_8_q14993 : KX11 I0_7_q14992 M0_8_q14993 := by rw [h_I0_7_q14992, h_M0_8_q14993]; exact KX11.p_X5_11_7 k_M0_5_q14990 h_r6_q14991_0
  refine wq_b (tt_fX5_readLines hN (wb_sh I0_7_q14992 11) (wb_sh M0_8_q14993 7) I0_7_q14992 M0_8_q14993 (KX11.s_X5_11_7 k_M0_8_q14993) (KX11.s_X9_0_0 k_M0_8_q14993)) (fun r9b_q14994 h_r9b_q14994 => ?_)
  obtain ⟨-⟩ := h_r9b_q14994
  have b_14995 := i32b r9b_q14994
  refine wq_eq (fun hc_14996 => ?_) (fun hc_14997 => ?_)
  · exact wq_s ⟨k_M0_8_q14993, trivial⟩
  · refine wq_b (tt_fX5_copyFrom hN (wb_sh I0_7_q14992 9) (wb_sh M0_8_q14993 1) (wb_sh I0_7_q14992 11) (wb_sh M0_8_q14993 7) (KX11.s_X5_9_1 k_M0_8_q14993) (KX11.s_X5_11_7 k_M0_8_q14993)) (fun r10_q14998 h_r10_q14998 => ?_)
    obtain ⟨h_r10_q14998_0, -⟩ := h_r10_q14998
    refine wq_v (fun I0_11_q14999 h_I0_11_q14999 => ?_)
    refine wq_v (fun M0_12_q15000 h_M0_12_q15000 => ?_)
    have k_M0_12_q15000 : KX11 I0_11_q14999 M0_12_q15000 := by rw [h_I0_11_q14999, h_M0_12_q15000]; exact KX11.p_X5_9_1 k_M0_8_q14993 h_r10_q14998_0
    exact wq_s ⟨k_M0_12_q15000, trivial⟩
theorem tt_fX11_need0 (N : Nat) : wq (fX11_need N (0 : Int32)) (qS 1 (fun _ => False)) := ⟨.inl 1, rfl, Or.inl ⟨rfl, by decide⟩⟩
theorem tt_fX11_need {N : Nat} (hN : 3000000000 ≤ N) (x0 : Int32)  : wq (fX11_need N x0) (qS 1 (fun r => x0.toInt ≠ 0 ∧ True)) := by
  unfold fX11_need
  have l_0 := il_0
  refine wq_eq (fun hc => ?_) (fun hc => ?_)
  · exact wq_s (show qE 1 1 from by unfold qE; omega)
  · exact wq_ok (wq_s ⟨by omega, trivial⟩)
set_option maxHeartbeats 4000000 in
theorem tt_fX11_isBook {N : Nat} (hN : 3000000000 ≤ N) (x0 : Int32)  : wq (fX11_isBook N x0) (fun r => (r.toInt = 0 ∨ (r.toInt = 1 ∧ 0 ≤ x0.toInt ∧ x0.toInt ≤ 5)) ∧ (0 ≤ r.toInt ∧ r.toInt ≤ 1) ∧ True) := by
  unfold fX11_isBook
  have b_15013 := i32b x0
  have l_0 := il_0
  have l_5 := il_5
  refine wq_b (tt_fX11_within hN x0 (0 : Int32) (5 : Int32)) (fun r1_q15014 h_r1_q15014 => ?_)
  obtain ⟨h_r1_q15014_0, h_r1_q15014_1, -⟩ := h_r1_q15014
  refine wq_bz (by omega) ?_
  exact wq_s ⟨(show (r1_q15014.toInt = 0 ∨ (r1_q15014.toInt = 1 ∧ 0 ≤ x0.toInt ∧ x0.toInt ≤ 5)) from by omega), (show 0 ≤ r1_q15014.toInt ∧ r1_q15014.toInt ≤ 1 from ⟨by omega, by omega⟩), trivial⟩
set_option maxHeartbeats 4000000 in
theorem tt_fX11_numberOf {N : Nat} (hN : 3000000000 ≤ N) (x0 : Int32) (x1 : Int32)  : wq (fX11_numberOf N x0 x1) (qS 1 (fun r => (r.toInt = 20 * x0.toInt + x1.toInt ∧ 0 ≤ x0.toInt ∧ x0.toInt ≤ 5 ∧ 0 ≤ x1.toInt ∧ x1.toInt ≤ 19) ∧ (0 ≤ r.toInt ∧ r.toInt ≤ 119) ∧ True)) := by
  unfold fX11_numberOf
  have b_15093 := i32b x0
  refine wq_b (tt_fX11_isBook hN x0) (fun r2_q15094 h_r2_q15094 => ?_)
  obtain ⟨h_r2_q15094_0, h_r2_q15094_1, -⟩ := h_r2_q15094
  have l_0 := il_0
  refine wq_eq (fun hc_15095 => ?_) (fun hc_15096 => ?_)
  · unfold fX11_numberOf_J21
    exact wq_xb (tt_fX11_need0 N) (by decide) (fun _ h => absurd h id)
  · have b_15098 := i32b x1
    have l_19 := il_19
    refine wq_b (tt_fX11_within hN x1 (0 : Int32) (19 : Int32)) (fun r3_q15099 h_r3_q15099 => ?_)
    obtain ⟨h_r3_q15099_0, h_r3_q15099_1, -⟩ := h_r3_q15099
    refine wq_eq (fun hc_15100 => ?_) (fun hc_15101 => ?_)
    · unfold fX11_numberOf_J21
      exact wq_xb (tt_fX11_need0 N) (by decide) (fun _ h => absurd h id)
    · have l_1 := il_1
      refine wq_xb (tt_fX11_need hN (1 : Int32)) (by decide) (fun r4_q15103 h_r4_q15103 => ?_)
      obtain ⟨h_r4_q15103_0, -⟩ := h_r4_q15103
      refine wq_ok ?_
      have l_20 := il_20
      have t_15104 := ia_mul (20 : Int32) (20) il_20 x0 (by omega) (by omega)
      have t_15105 := ia_add ((20 : Int32) * x0) x1 (by omega) (by omega)
      exact wq_s ⟨(show ((((20 : Int32) * x0) + x1).toInt = 20 * x0.toInt + x1.toInt ∧ 0 ≤ x0.toInt ∧ x0.toInt ≤ 5 ∧ 0 ≤ x1.toInt ∧ x1.toInt ≤ 19) from by omega), (show 0 ≤ (((20 : Int32) * x0) + x1).toInt ∧ (((20 : Int32) * x0) + x1).toInt ≤ 119 from ⟨by omega, by omega⟩), trivial⟩
set_option maxHeartbeats 4000000 in
theorem tt_fX11_wheel {N : Nat} (hN : 3000000000 ≤ N) (I0 : Nat → Int32) (M0 : Nat → Nat → Int32) (x1 : Int32) (x2 : Int32) (x3 : Int32) (k_I0 : KX11 I0 M0) : wq (fX11_wheel N I0 M0 x1 x2 x3) (qS 3 (fun r => KX11 r.2.1 r.2.2 ∧ True)) := by
  unfold fX11_wheel
  have b_15221 := i32b x1
  have b_15222 := i32b x2
  refine wq_xb (tt_fX11_numberOf hN x1 x2) (by decide) (fun r1_q15220 h_r1_q15220 => ?_)
  obtain ⟨h_r1_q15220_0, h_r1_q15220_1, -⟩ := h_r1_q15220
  have b_15223 := i32b x3
  have l_0 := il_0
  have t_15224 := KX11.i0 k_I0
  refine wq_b (tt_fX11_within hN x3 (0 : Int32) (I0 0)) (fun r2_q15225 h_r2_q15225 => ?_)
  obtain ⟨h_r2_q15225_0, h_r2_q15225_1, -⟩ := h_r2_q15225
  refine wq_xb (tt_fX11_allow hN r2_q15225) (by decide) (fun r3_q15226 h_r3_q15226 => ?_)
  obtain ⟨h_r3_q15226_0, -⟩ := h_r3_q15226
  refine wq_ok ?_
  refine wq_b (tt_fX9_begin hN I0 M0 x3 ⟨by omega, by omega⟩ (KX11.s_X9_0_0 k_I0)) (fun r4_q15227 h_r4_q15227 => ?_)
  obtain ⟨h_r4_q15227_0, -⟩ := h_r4_q15227
  refine wq_v (fun I0_5_q15228 h_I0_5_q15228 => ?_)
  refine wq_v (fun M0_6_q15229 h_M0_6_q15229 => ?_)
  have k_M0_6_q15229 : KX11 I0_5_q15228 M0_6_q15229 := by rw [h_I0_5_q15228, h_M0_6_q15229]; exact KX11.p_X9_0_0 k_I0 h_r4_q15227_0
  refine wq_b (tt_fX1_readEntries hN (wb_sh I0_5_q15228 13) (wb_sh M0_6_q15229 13) I0_5_q15228 M0_6_q15229 (KX11.s_X1_13_13 k_M0_6_q15229) (KX11.s_X9_0_0 k_M0_6_q15229)) (fun r7_q15230 h_r7_q15230 => ?_)
  obtain ⟨h_r7_q15230_0, -⟩ := h_r7_q15230
  refine wq_v (fun I0_8_q15231 h_I0_8_q15231 => ?_)
  refine wq_v (fun M0_9_q15232 h_M0_9_q15232 => ?_)
  have k_M0_9_q15232 : KX11 I0_8_q15231 M0_9_q15232 := by rw [h_I0_8_q15231, h_M0_9_q15232]; exact KX11.p_X1_13_13 k_M0_6_q15229 h_r7_q15230_0
  have b_15233 := i32b r7_q15230.1
  refine wq_eq (fun hc_15234 => ?_) (fun hc_15235 => ?_)
  · exact wq_s ⟨k_M0_9_q15232, trivial⟩
  · refine wq_b (tt_fX1_keepDraft hN (wb_sh I0_8_q15231 13) (wb_sh M0_9_q15232 13) r1_q15220 ⟨by omega, by omega⟩ (KX11.s_X1_13_13 k_M0_9_q15232)) (fun r10_q15236 h_r10_q15236 => ?_)
    obtain ⟨h_r10_q15236_0, -⟩ := h_r10_q15236
    refine wq_v (fun I0_11_q15237 h_I0_11_q15237 => ?_)
    refine wq_v (fun M0_12_q15238 h_M0_12_q15238 => ?_)
    have k_M0_12_q15238 : KX11 I0_11_q15237 M0_12_q15238 := by rw [h_I0_11_q15237, h_M0_12_q15238]; exact KX11.p_X1_13_13 k_M0_9_q15232 h_r10_q15236_0
    exact wq_s ⟨k_M0_12_q15238, trivial⟩
set_option maxHeartbeats 4000000 in
theorem tt_fX11_fault {N : Nat} (hN : 3000000000 ≤ N) (I0 : Nat → Int32) (M0 : Nat → Nat → Int32) (k_I0 : KX11 I0 M0) : wq (fX11_fault N I0 M0) (fun r => True) := by
  unfold fX11_fault
  exact wq_s trivial
set_option maxHeartbeats 4000000 in
theorem tt_fX11_count {N : Nat} (hN : 3000000000 ≤ N) (I0 : Nat → Int32) (M0 : Nat → Nat → Int32) (x1 : Int32) (k_I0 : KX11 I0 M0) : wq (fX11_count N I0 M0 x1) (qS 1 (fun r => KX11 r.2.1 r.2.2 ∧ True)) := by
  unfold fX11_count
  have b_15377 := i32b x1
  have l_0 := il_0
  refine wq_eq (fun hc_15378 => ?_) (fun hc_15379 => ?_)
  · refine wq_ok ?_
    have t_15380 := KX11.i9 k_I0
    exact wq_s ⟨k_I0, trivial⟩
  · have l_1 := il_1
    refine wq_eq (fun hc_15381 => ?_) (fun hc_15382 => ?_)
    · refine wq_ok ?_
      exact wq_s ⟨k_I0, trivial⟩
    · have l_2 := il_2
      refine wq_eq (fun hc_15383 => ?_) (fun hc_15384 => ?_)
      · refine wq_ok ?_
        refine wq_b (tt_fX1_howManyTell hN (wb_sh I0 13) (wb_sh M0 13) (KX11.s_X1_13_13 k_I0)) (fun r1_q15385 h_r1_q15385 => ?_)
        obtain ⟨-⟩ := h_r1_q15385
        have b_15386 := i32b r1_q15385
        exact wq_s ⟨k_I0, trivial⟩
      · have l_3 := il_3
        refine wq_eq (fun hc_15387 => ?_) (fun hc_15388 => ?_)
        · refine wq_ok ?_
          refine wq_b (tt_fX7_howManyLives hN (wb_sh I0 43) (wb_sh M0 28) (KX11.s_X7_43_28 k_I0)) (fun r2_q15389 h_r2_q15389 => ?_)
          obtain ⟨h_r2_q15389_0, h_r2_q15389_1, -⟩ := h_r2_q15389
          refine wq_v (fun I0_3_q15390 h_I0_3_q15390 => ?_)
          refine wq_v (fun M0_4_q15391 h_M0_4_q15391 => ?_)
          have k_M0_4_q15391 : KX11 I0_3_q15390 M0_4_q15391 := by rw [h_I0_3_q15390, h_M0_4_q15391]; exact KX11.p_X7_43_28 k_I0 h_r2_q15389_1
          exact wq_s ⟨k_M0_4_q15391, trivial⟩
        · have l_4 := il_4
          refine wq_eq (fun hc_15392 => ?_) (fun hc_15393 => ?_)
          · refine wq_ok ?_
            have t_15394 := KX11.i0 k_I0
            exact wq_s ⟨k_I0, trivial⟩
          · have l_5 := il_5
            refine wq_eq (fun hc_15395 => ?_) (fun hc_15396 => ?_)
            · refine wq_ok ?_
              refine wq_b (tt_fX7_howManyFates hN (wb_sh I0 43) (wb_sh M0 28) (KX11.s_X7_43_28 k_I0)) (fun r5_q15397 h_r5_q15397 => ?_)
              obtain ⟨h_r5_q15397_0, h_r5_q15397_1, -⟩ := h_r5_q15397
              refine wq_v (fun I0_6_q15398 h_I0_6_q15398 => ?_)
              refine wq_v (fun M0_7_q15399 h_M0_7_q15399 => ?_)
              have k_M0_7_q15399 : KX11 I0_6_q15398 M0_7_q15399 := by rw [h_I0_6_q15398, h_M0_7_q15399]; exact KX11.p_X7_43_28 k_I0 h_r5_q15397_1
              exact wq_s ⟨k_M0_7_q15399, trivial⟩
            · exact wq_s (show qE 1 1 from by unfold qE; omega)
set_option maxHeartbeats 4000000 in
theorem tt_fX11_isDay {N : Nat} (hN : 3000000000 ≤ N) (x0 : Int32)  : wq (fX11_isDay N x0) (fun r => (r.toInt = 0 ∨ (r.toInt = 1 ∧ 0 ≤ x0.toInt ∧ x0.toInt ≤ 1000000)) ∧ (0 ≤ r.toInt ∧ r.toInt ≤ 1) ∧ True) := by
  unfold fX11_isDay
  have b_15412 := i32b x0
  have l_0 := il_0
  have l_1000000 := il_1000000
  refine wq_b (tt_fX11_within hN x0 (0 : Int32) (1000000 : Int32)) (fun r1_q15413 h_r1_q15413 => ?_)
  obtain ⟨h_r1_q15413_0, h_r1_q15413_1, -⟩ := h_r1_q15413
  refine wq_bz (by omega) ?_
  exact wq_s ⟨(show (r1_q15413.toInt = 0 ∨ (r1_q15413.toInt = 1 ∧ 0 ≤ x0.toInt ∧ x0.toInt ≤ 1000000)) from by omega), (show 0 ≤ r1_q15413.toInt ∧ r1_q15413.toInt ≤ 1 from ⟨by omega, by omega⟩), trivial⟩

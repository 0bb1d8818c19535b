set_option maxHeartbeats 4000000 in
theorem tt_fX6_howManyTurned_L13 {N : Nat} (hN : 3000000000 ≤ N) (x1 : Int32) (x2 : Int32) (v2 : Int32) (h_x1 : 0 ≤ x1.toInt ∧ x1.toInt ≤ 5) (h_x2 : 0 ≤ x2.toInt ∧ x2.toInt ≤ 5) (h_v2 : 0 ≤ v2.toInt ∧ v2.toInt ≤ 20)  : ∀ (fu : Nat) (I0_l13 : (Nat → Int32)) (M0_l13 : (Nat → Nat → Int32)) (y13_4 : Int32) (y13_5 : Int32), (0 ≤ y13_5.toInt ∧ y13_5.toInt ≤ 20) → (KX6 I0_l13 M0_l13) → (20 - y13_5.toInt) < (fu : Int) → wq (fX6_howManyTurned_L13 N x1 x2 v2 fu I0_l13 M0_l13 y13_4 y13_5) (fun r => KX6 r.2.1 r.2.2 ∧ True) := by
  intro fu
  induction fu with
  | zero => intro I0_l13 M0_l13 y13_4 y13_5 h_y13_5 k_I0_l13 hm; exfalso; omega
  | succ fu ih =>
    intro I0_l13 M0_l13 y13_4 y13_5 h_y13_5 k_I0_l13 hm
    rw [fX6_howManyTurned_L13.eq_2]
    refine wq_le (fun hc_11899 => ?_) (fun hc_11900 => ?_)
    · have b_11901 := i32b y13_4
      exact wq_s ⟨k_I0_l13, trivial⟩
    · have b_11902 := i32b y13_4
      have l_0 := il_0
      exact tt_fX6_howManyTurned_L22 hN x1 x2 v2 y13_5 _ ⟨by omega, by omega⟩ ⟨by omega, by omega⟩ ⟨by omega, by omega⟩ ⟨by omega, by omega⟩ (fun q0 q1 q2 q3 hq0 hq1 hq2 => ih q0 q1 q2 q3 hq0 hq1 (by omega)) N I0_l13 M0_l13 y13_4 (0 : Int32) ⟨by omega, by omega⟩ k_I0_l13 (by omega)
set_option maxHeartbeats 4000000 in
theorem tt_fX6_howManyTurned {N : Nat} (hN : 3000000000 ≤ N) (I0 : Nat → Int32) (M0 : Nat → Nat → Int32) (x1 : Int32) (x2 : Int32) (h_x1 : 0 ≤ x1.toInt ∧ x1.toInt ≤ 5) (h_x2 : 0 ≤ x2.toInt ∧ x2.toInt ≤ 5) (k_I0 : KX6 I0 M0) : wq (fX6_howManyTurned N I0 M0 x1 x2) (fun r => KX6 r.2.1 r.2.2 ∧ True) := by
  unfold fX6_howManyTurned
  refine wq_b (tt_fX6_setPlaces hN I0 M0 x1 x2 ⟨by omega, by omega⟩ ⟨by omega, by omega⟩ k_I0) (fun r1_q11903 h_r1_q11903 => ?_)
  obtain ⟨h_r1_q11903_0, h_r1_q11903_1, -⟩ := h_r1_q11903
  refine wq_v (fun v2_q11904 h_v2_q11904 => ?_)
  have t_v2_q11904 := congrArg Int32.toInt h_v2_q11904
  have l_0 := il_0
  exact tt_fX6_howManyTurned_L13 hN x1 x2 v2_q11904 ⟨by omega, by omega⟩ ⟨by omega, by omega⟩ ⟨by omega, by omega⟩ N r1_q11903.2.1 r1_q11903.2.2 (0 : Int32) (0 : Int32) ⟨by omega, by omega⟩ h_r1_q11903_1 (by omega)
set_option maxHeartbeats 4000000 in
theorem tt_fX7_tellLife {N : Nat} (hN : 3000000000 ≤ N) (I0 : Nat → Int32) (M0 : Nat → Nat → Int32) (x1 : Int32) (x2 : Int32) (x3 : Int32) (h_x1 : 0 ≤ x1.toInt ∧ x1.toInt ≤ 19) (k_I0 : KX7 I0 M0) : wq (fX7_tellLife N I0 M0 x1 x2 x3) (fun r => KX7 r.1 r.2 ∧ True) := by
  unfold fX7_tellLife
  refine wq_in (n := 20) ⟨by omega, by omega⟩ ?_
  refine wq_v (fun M0_1_q11915 h_M0_1_q11915 => ?_)
  have k_M0_1_q11915 : KX7 I0 M0_1_q11915 := by rw [h_M0_1_q11915]; exact KX7.sm0 k_I0
  refine wq_in (n := 20) ⟨by omega, by omega⟩ ?_
  refine wq_v (fun M0_2_q11916 h_M0_2_q11916 => ?_)
  have k_M0_2_q11916 : KX7 I0 M0_2_q11916 := by rw [h_M0_2_q11916]; exact KX7.sm1 k_M0_1_q11915
  exact wq_s ⟨k_M0_2_q11916, trivial⟩
set_option maxHeartbeats 4000000 in
theorem tt_fX7_tellFate {N : Nat} (hN : 3000000000 ≤ N) (I0 : Nat → Int32) (M0 : Nat → Nat → Int32) (x1 : Int32) (x2 : Int32) (h_x1 : 0 ≤ x1.toInt ∧ x1.toInt ≤ 19) (k_I0 : KX7 I0 M0) : wq (fX7_tellFate N I0 M0 x1 x2) (fun r => KX7 r.1 r.2 ∧ True) := by
  unfold fX7_tellFate
  refine wq_in (n := 20) ⟨by omega, by omega⟩ ?_
  refine wq_v (fun M0_1_q11922 h_M0_1_q11922 => ?_)
  have k_M0_1_q11922 : KX7 I0 M0_1_q11922 := by rw [h_M0_1_q11922]; exact KX7.sm2 k_I0
  exact wq_s ⟨k_M0_1_q11922, trivial⟩
set_option maxHeartbeats 4000000 in
theorem tt_fX7_setRows_11_L4 {N : Nat} (hN : 3000000000 ≤ N)    : ∀ (fu : Nat) (I0_l4 : (Nat → Int32)) (M0_l4 : (Nat → Nat → Int32)) (y4_2 : Int32) (y4_3 : Int32), (0 ≤ y4_2.toInt ∧ y4_2.toInt ≤ 20) → (0 ≤ y4_3.toInt ∧ y4_3.toInt ≤ 20) → (KX7 I0_l4 M0_l4) → (y4_2.toInt ≤ y4_3.toInt) → (20 - y4_3.toInt) < (fu : Int) → wq (fX7_setRows_11_L4 N fu I0_l4 M0_l4 y4_2 y4_3) (fun r => (0 ≤ r.1.toInt ∧ r.1.toInt ≤ 20) ∧ KX7 r.2.1 r.2.2 ∧ True) := by
  intro fu
  induction fu with
  | zero => intro I0_l4 M0_l4 y4_2 y4_3 h_y4_2 h_y4_3 k_I0_l4 hl_3 hm; exfalso; omega
  | succ fu ih =>
    intro I0_l4 M0_l4 y4_2 y4_3 h_y4_2 h_y4_3 k_I0_l4 hl_3 hm
    rw [fX7_setRows_11_L4.eq_2]
    have l_20 := il_20
    refine wq_le (fun hc_12044 => ?_) (fun hc_12045 => ?_)
    · exact wq_s ⟨(show 0 ≤ y4_2.toInt ∧ y4_2.toInt ≤ 20 from ⟨by omega, by omega⟩), k_I0_l4, trivial⟩
    · refine wq_in (n := 20) ⟨by omega, by omega⟩ ?_
      have l_m1 := il_m1
      refine wq_eq (fun hc_12046 => ?_) (fun hc_12047 => ?_)
      · have l_1 := il_1
        have t_12049 := ia_add y4_3 (1 : Int32) (by omega) (by omega)
        refine wq_v (fun v1_q12048 h_v1_q12048 => ?_)
        have t_v1_q12048 := congrArg Int32.toInt h_v1_q12048
        exact ih I0_l4 M0_l4 y4_2 v1_q12048 ⟨by omega, by omega⟩ ⟨by omega, by omega⟩ k_I0_l4 (by omega) (by omega)
      · refine wq_in (n := 20) ⟨by omega, by omega⟩ ?_
        refine wq_v (fun M0_2_q12050 h_M0_2_q12050 => ?_)
        have k_M0_2_q12050 : KX7 I0_l4 M0_2_q12050 := by rw [h_M0_2_q12050]; exact KX7.sm3 k_I0_l4 ⟨by omega, by omega⟩
        have l_1 := il_1
        have t_12052 := ia_add y4_2 (1 : Int32) (by omega) (by omega)
        refine wq_v (fun v3_q12051 h_v3_q12051 => ?_)
        have t_v3_q12051 := congrArg Int32.toInt h_v3_q12051
        have t_12054 := ia_add y4_3 (1 : Int32) (by omega) (by omega)
        refine wq_v (fun v4_q12053 h_v4_q12053 => ?_)
        have t_v4_q12053 := congrArg Int32.toInt h_v4_q12053
        exact ih I0_l4 M0_2_q12050 v3_q12051 v4_q12053 ⟨by omega, by omega⟩ ⟨by omega, by omega⟩ k_M0_2_q12050 (by omega) (by omega)
set_option maxHeartbeats 4000000 in
theorem tt_fX7_setRows_11 {N : Nat} (hN : 3000000000 ≤ N) (I0 : Nat → Int32) (M0 : Nat → Nat → Int32) (k_I0 : KX7 I0 M0) : wq (fX7_setRows_11 N I0 M0) (fun r => (0 ≤ r.1.toInt ∧ r.1.toInt ≤ 20) ∧ KX7 r.2.1 r.2.2 ∧ True) := by
  unfold fX7_setRows_11
  have l_0 := il_0
  exact tt_fX7_setRows_11_L4 hN N I0 M0 (0 : Int32) (0 : Int32) ⟨by omega, by omega⟩ ⟨by omega, by omega⟩ k_I0 (by omega) (by omega)
set_option maxHeartbeats 4000000 in
theorem tt_fX7_howManyLives {N : Nat} (hN : 3000000000 ≤ N) (I0 : Nat → Int32) (M0 : Nat → Nat → Int32) (k_I0 : KX7 I0 M0) : wq (fX7_howManyLives N I0 M0) (fun r => (0 ≤ r.1.toInt ∧ r.1.toInt ≤ 20) ∧ KX7 r.2.1 r.2.2 ∧ True) := by
  unfold fX7_howManyLives
  refine wq_b (tt_fX7_setRows_11 hN I0 M0 k_I0) (fun r1_q12061 h_r1_q12061 => ?_)
  obtain ⟨h_r1_q12061_0, h_r1_q12061_1, -⟩ := h_r1_q12061
  exact wq_s ⟨(show 0 ≤ r1_q12061.1.toInt ∧ r1_q12061.1.toInt ≤ 20 from ⟨by omega, by omega⟩), h_r1_q12061_1, trivial⟩
set_option maxHeartbeats 4000000 in
theorem tt_fX7_setRows_13_L4 {N : Nat} (hN : 3000000000 ≤ N)    : ∀ (fu : Nat) (I0_l4 : (Nat → Int32)) (M0_l4 : (Nat → Nat → Int32)) (y4_2 : Int32) (y4_3 : Int32), (0 ≤ y4_2.toInt ∧ y4_2.toInt ≤ 20) → (0 ≤ y4_3.toInt ∧ y4_3.toInt ≤ 20) → (KX7 I0_l4 M0_l4) → (y4_2.toInt ≤ y4_3.toInt) → (20 - y4_3.toInt) < (fu : Int) → wq (fX7_setRows_13_L4 N fu I0_l4 M0_l4 y4_2 y4_3) (fun r => (0 ≤ r.1.toInt ∧ r.1.toInt ≤ 20) ∧ KX7 r.2.1 r.2.2 ∧ True) := by
  intro fu
  induction fu with
  | zero => intro I0_l4 M0_l4 y4_2 y4_3 h_y4_2 h_y4_3 k_I0_l4 hl_3 hm; exfalso; omega
  | succ fu ih =>
    intro I0_l4 M0_l4 y4_2 y4_3 h_y4_2 h_y4_3 k_I0_l4 hl_3 hm
    rw [fX7_setRows_13_L4.eq_2]
    have l_20 := il_20
    refine wq_le (fun hc_12183 => ?_) (fun hc_12184 => ?_)
    · exact wq_s ⟨(show 0 ≤ y4_2.toInt ∧ y4_2.toInt ≤ 20 from ⟨by omega, by omega⟩), k_I0_l4, trivial⟩
    · refine wq_in (n := 20) ⟨by omega, by omega⟩ ?_
      have l_m1 := il_m1
      refine wq_eq (fun hc_12185 => ?_) (fun hc_12186 => ?_)
      · have l_1 := il_1
        have t_12188 := ia_add y4_3 (1 : Int32) (by omega) (by omega)
        refine wq_v (fun v1_q12187 h_v1_q12187 => ?_)
        have t_v1_q12187 := congrArg Int32.toInt h_v1_q12187
        exact ih I0_l4 M0_l4 y4_2 v1_q12187 ⟨by omega, by omega⟩ ⟨by omega, by omega⟩ k_I0_l4 (by omega) (by omega)
      · refine wq_in (n := 20) ⟨by omega, by omega⟩ ?_
        refine wq_v (fun M0_2_q12189 h_M0_2_q12189 => ?_)
        have k_M0_2_q12189 : KX7 I0_l4 M0_2_q12189 := by rw [h_M0_2_q12189]; exact KX7.sm3 k_I0_l4 ⟨by omega, by omega⟩
        have l_1 := il_1
        have t_12191 := ia_add y4_2 (1 : Int32) (by omega) (by omega)
        refine wq_v (fun v3_q12190 h_v3_q12190 => ?_)
        have t_v3_q12190 := congrArg Int32.toInt h_v3_q12190
        have t_12193 := ia_add y4_3 (1 : Int32) (by omega) (by omega)
        refine wq_v (fun v4_q12192 h_v4_q12192 => ?_)
        have t_v4_q12192 := congrArg Int32.toInt h_v4_q12192
        exact ih I0_l4 M0_2_q12189 v3_q12190 v4_q12192 ⟨by omega, by omega⟩ ⟨by omega, by omega⟩ k_M0_2_q12189 (by omega) (by omega)
set_option maxHeartbeats 4000000 in
theorem tt_fX7_setRows_13 {N : Nat} (hN : 3000000000 ≤ N) (I0 : Nat → Int32) (M0 : Nat → Nat → Int32) (k_I0 : KX7 I0 M0) : wq (fX7_setRows_13 N I0 M0) (fun r => (0 ≤ r.1.toInt ∧ r.1.toInt ≤ 20) ∧ KX7 r.2.1 r.2.2 ∧ True) := by
  unfold fX7_setRows_13
  have l_0 := il_0
  exact tt_fX7_setRows_13_L4 hN N I0 M0 (0 : Int32) (0 : Int32) ⟨by omega, by omega⟩ ⟨by omega, by omega⟩ k_I0 (by omega) (by omega)
set_option maxHeartbeats 4000000 in
theorem tt_fX7_howManyFates {N : Nat} (hN : 3000000000 ≤ N) (I0 : Nat → Int32) (M0 : Nat → Nat → Int32) (k_I0 : KX7 I0 M0) : wq (fX7_howManyFates N I0 M0) (fun r => (0 ≤ r.1.toInt ∧ r.1.toInt ≤ 20) ∧ KX7 r.2.1 r.2.2 ∧ True) := by
  unfold fX7_howManyFates
  refine wq_b (tt_fX7_setRows_13 hN I0 M0 k_I0) (fun r1_q12200 h_r1_q12200 => ?_)
  obtain ⟨h_r1_q12200_0, h_r1_q12200_1, -⟩ := h_r1_q12200
  exact wq_s ⟨(show 0 ≤ r1_q12200.1.toInt ∧ r1_q12200.1.toInt ≤ 20 from ⟨by omega, by omega⟩), h_r1_q12200_1, trivial⟩
set_option maxHeartbeats 4000000 in
theorem tt_fX7_isHit {N : Nat} (hN : 3000000000 ≤ N) (I0 : Nat → Int32) (M0 : Nat → Nat → Int32) (x1 : Int32) (x2 : Int32) (x3 : Int32) (h_x1 : 0 ≤ x1.toInt ∧ x1.toInt ≤ 19) (k_I0 : KX7 I0 M0) : wq (fX7_isHit N I0 M0 x1 x2 x3) (fun r => (0 ≤ r.toInt ∧ r.toInt ≤ 1) ∧ True) := by
  unfold fX7_isHit
  refine wq_in (n := 20) ⟨by omega, by omega⟩ ?_
  have b_12231 := i32b x3
  have l_0 := il_0
  have b_12232 := i32b x2
  have t_12233 := ite_le (0 : Int32) ((M0 0 x1.toNatClampNeg) - x2) ((M0 0 x1.toNatClampNeg) - x2) (0 - ((M0 0 x1.toNatClampNeg) - x2))
  refine wq_lt (fun hc_12234 => ?_) (fun hc_12235 => ?_)
  · exact wq_s ⟨(show 0 ≤ (0 : Int32).toInt ∧ (0 : Int32).toInt ≤ 1 from ⟨by omega, by omega⟩), trivial⟩
  · have l_1 := il_1
    exact wq_s ⟨(show 0 ≤ (1 : Int32).toInt ∧ (1 : Int32).toInt ≤ 1 from ⟨by omega, by omega⟩), trivial⟩
set_option maxHeartbeats 4000000 in
theorem tt_fX7_howManyHits_L14 {N : Nat} (hN : 3000000000 ≤ N) (x1 : Int32) (v2 : Int32) (h_v2 : 0 ≤ v2.toInt ∧ v2.toInt ≤ 20)  : ∀ (fu : Nat) (I0_l14 : (Nat → Int32)) (M0_l14 : (Nat → Nat → Int32)) (y14_3 : Int32) (y14_4 : Int32), (0 ≤ y14_3.toInt ∧ y14_3.toInt ≤ 20) → (0 ≤ y14_4.toInt ∧ y14_4.toInt ≤ 20) → (KX7 I0_l14 M0_l14) → (y14_3.toInt ≤ y14_4.toInt) → (20 - y14_4.toInt) < (fu : Int) → wq (fX7_howManyHits_L14 N x1 v2 fu I0_l14 M0_l14 y14_3 y14_4) (fun r => (0 ≤ r.1.toInt ∧ r.1.toInt ≤ 20) ∧ KX7 r.2.1 r.2.2 ∧ True) := by
  intro fu
  induction fu with
  | zero => intro I0_l14 M0_l14 y14_3 y14_4 h_y14_3 h_y14_4 k_I0_l14 hl_3 hm; exfalso; omega
  | succ fu ih =>
    intro I0_l14 M0_l14 y14_3 y14_4 h_y14_3 h_y14_4 k_I0_l14 hl_3 hm
    rw [fX7_howManyHits_L14.eq_2]
    refine wq_le (fun hc_12380 => ?_) (fun hc_12381 => ?_)
    · exact wq_s ⟨(show 0 ≤ y14_3.toInt ∧ y14_3.toInt ≤ 20 from ⟨by omega, by omega⟩), k_I0_l14, trivial⟩
    · refine wq_in (n := 20) ⟨by omega, by omega⟩ ?_
      refine wq_in (n := 20) ⟨by omega, by omega⟩ ?_
      have t_12382 := KX7.m3 k_I0_l14 y14_4.toNatClampNeg
      refine wq_in (n := 20) ⟨by omega, by omega⟩ ?_
      have b_12383 := i32b x1
      refine wq_b (tt_fX7_isHit hN I0_l14 M0_l14 (M0_l14 3 y14_4.toNatClampNeg) (M0_l14 1 (M0_l14 3 y14_4.toNatClampNeg).toNatClampNeg) x1 ⟨by omega, by omega⟩ k_I0_l14) (fun r3_q12384 h_r3_q12384 => ?_)
      obtain ⟨h_r3_q12384_0, -⟩ := h_r3_q12384
      have l_0 := il_0
      refine wq_eq (fun hc_12385 => ?_) (fun hc_12386 => ?_)
      · have l_1 := il_1
        have t_12388 := ia_add y14_4 (1 : Int32) (by omega) (by omega)
        refine wq_v (fun v4_q12387 h_v4_q12387 => ?_)
        have t_v4_q12387 := congrArg Int32.toInt h_v4_q12387
        exact ih I0_l14 M0_l14 y14_3 v4_q12387 ⟨by omega, by omega⟩ ⟨by omega, by omega⟩ k_I0_l14 (by omega) (by omega)
      · have l_1 := il_1
        have t_12390 := ia_add y14_3 (1 : Int32) (by omega) (by omega)
        refine wq_v (fun v5_q12389 h_v5_q12389 => ?_)
        have t_v5_q12389 := congrArg Int32.toInt h_v5_q12389
        have t_12392 := ia_add y14_4 (1 : Int32) (by omega) (by omega)
        refine wq_v (fun v6_q12391 h_v6_q12391 => ?_)
        have t_v6_q12391 := congrArg Int32.toInt h_v6_q12391
        exact ih I0_l14 M0_l14 v5_q12389 v6_q12391 ⟨by omega, by omega⟩ ⟨by omega, by omega⟩ k_I0_l14 (by omega) (by omega)
set_option maxHeartbeats 4000000 in
theorem tt_fX7_howManyHits {N : Nat} (hN : 3000000000 ≤ N) (I0 : Nat → Int32) (M0 : Nat → Nat → Int32) (x1 : Int32) (k_I0 : KX7 I0 M0) : wq (fX7_howManyHits N I0 M0 x1) (fun r => (0 ≤ r.1.toInt ∧ r.1.toInt ≤ 20) ∧ KX7 r.2.1 r.2.2 ∧ True) := by
  unfold fX7_howManyHits
  refine wq_b (tt_fX7_setRows_11 hN I0 M0 k_I0) (fun r1_q12393 h_r1_q12393 => ?_)
  obtain ⟨h_r1_q12393_0, h_r1_q12393_1, -⟩ := h_r1_q12393
  refine wq_v (fun v2_q12394 h_v2_q12394 => ?_)
  have t_v2_q12394 := congrArg Int32.toInt h_v2_q12394
  have b_12395 := i32b x1
  have l_0 := il_0
  exact tt_fX7_howManyHits_L14 hN x1 v2_q12394 ⟨by omega, by omega⟩ N r1_q12393.2.1 r1_q12393.2.2 (0 : Int32) (0 : Int32) ⟨by omega, by omega⟩ ⟨by omega, by omega⟩ h_r1_q12393_1 (by omega) (by omega)
set_option maxHeartbeats 4000000 in
theorem tt_fX7_layNext_L56 {N : Nat} (hN : 3000000000 ≤ N) (x1 : Int32) (x2 : Int32) (r1 : Int32) (v2 : Int32) (y43_4 : Int32) (z43_0 : Int32) (g8 : (Nat → Int32) → (Nat → Nat → Int32) → Int32 → Option ((Nat → Int32) × (Nat → Nat → Int32))) (h_x1 : 0 ≤ x1.toInt ∧ x1.toInt ≤ 254) (h_x2 : 1 ≤ x2.toInt ∧ x2.toInt ≤ 8) (h_r1 : 0 ≤ r1.toInt ∧ r1.toInt ≤ 7) (h_v2 : 0 ≤ v2.toInt ∧ v2.toInt ≤ 255) (h_y43_4 : 0 ≤ y43_4.toInt ∧ y43_4.toInt ≤ 7) (h_z43_0 : 0 ≤ z43_0.toInt ∧ z43_0.toInt ≤ 1) (hg8 : ∀ (q0 : (Nat → Int32)) (q1 : (Nat → Nat → Int32)) (q2 : Int32), (0 ≤ q2.toInt ∧ q2.toInt ≤ 8) → (KX7 q0 q1) → (y43_4.toInt < q2.toInt) → wq (g8 q0 q1 q2) (fun r => KX7 r.1 r.2 ∧ True)) : ∀ (fu : Nat) (I0_l56 : (Nat → Int32)) (M0_l56 : (Nat → Nat → Int32)) (y56_7 : Int32), (0 ≤ y56_7.toInt ∧ y56_7.toInt ≤ 8) → (KX7 I0_l56 M0_l56) → (8 - y56_7.toInt) < (fu : Int) → wq (fX7_layNext_L56 N x1 x2 r1 v2 y43_4 z43_0 g8 fu I0_l56 M0_l56 y56_7) (fun r => KX7 r.1 r.2 ∧ True) := by
  intro fu
  induction fu with
  | zero => intro I0_l56 M0_l56 y56_7 h_y56_7 k_I0_l56 hm; exfalso; omega
  | succ fu ih =>
    intro I0_l56 M0_l56 y56_7 h_y56_7 k_I0_l56 hm
    rw [fX7_layNext_L56.eq_2]
    refine wq_lt (fun hc_12664 => ?_) (fun hc_12665 => ?_)
    · have l_1 := il_1
      have t_12667 := ia_add y43_4 (1 : Int32) (by omega) (by omega)
      refine wq_v (fun v3_q12666 h_v3_q12666 => ?_)
      have t_v3_q12666 := congrArg Int32.toInt h_v3_q12666
      exact hg8 I0_l56 M0_l56 v3_q12666 ⟨by omega, by omega⟩ k_I0_l56 (by omega)
    · have l_9 := il_9
      have t_12668 := ia_mul (9 : Int32) (9) il_9 v2 (by omega) (by omega)
      have t_12669 := ia_add ((9 : Int32) * v2) y56_7 (by omega) (by omega)
      have t_12670 := ia_add (((9 : Int32) * v2) + y56_7) z43_0 (by omega) (by omega)
      refine wq_in (n := 2304) ⟨by omega, by omega⟩ ?_
      have t_12671 := ia_mul (9 : Int32) (9) il_9 x1 (by omega) (by omega)
      have t_12672 := ia_add ((9 : Int32) * x1) y56_7 (by omega) (by omega)
      refine wq_in (n := 2304) ⟨by omega, by omega⟩ ?_
      refine wq_in (n := 2304) ⟨by omega, by omega⟩ ?_
      refine wq_v (fun M0_4_q12673 h_M0_4_q12673 => ?_)
      have k_M0_4_q12673 : KX7 I0_l56 M0_4_q12673 := by rw [h_M0_4_q12673]; exact KX7.sm5 k_I0_l56
      have l_1 := il_1
      have t_12675 := ia_add y56_7 (1 : Int32) (by omega) (by omega)
      refine wq_v (fun v5_q12674 h_v5_q12674 => ?_)
      have t_v5_q12674 := congrArg Int32.toInt h_v5_q12674
      exact ih I0_l56 M0_4_q12673 v5_q12674 ⟨by omega, by omega⟩ k_M0_4_q12673 (by omega)
set_option maxHeartbeats 4000000 in
theorem tt_fX7_layNext_L8 {N : Nat} (hN : 3000000000 ≤ N) (x1 : Int32) (x2 : Int32) (r1 : Int32) (h_x1 : 0 ≤ x1.toInt ∧ x1.toInt ≤ 254) (h_x2 : 0 ≤ x2.toInt ∧ x2.toInt ≤ 8) (h_r1 : 0 ≤ r1.toInt ∧ r1.toInt ≤ 7)  : ∀ (fu : Nat) (I0_l8 : (Nat → Int32)) (M0_l8 : (Nat → Nat → Int32)) (y8_4 : Int32), (0 ≤ y8_4.toInt ∧ y8_4.toInt ≤ 8) → (KX7 I0_l8 M0_l8) → (8 - y8_4.toInt) < (fu : Int) → wq (fX7_layNext_L8 N x1 x2 r1 fu I0_l8 M0_l8 y8_4) (fun r => KX7 r.1 r.2 ∧ True) := by
  intro fu
  induction fu with
  | zero => intro I0_l8 M0_l8 y8_4 h_y8_4 k_I0_l8 hm; exfalso; omega
  | succ fu ih =>
    intro I0_l8 M0_l8 y8_4 h_y8_4 k_I0_l8 hm
    rw [fX7_layNext_L8.eq_2]
    refine wq_le (fun hc_12676 => ?_) (fun hc_12677 => ?_)
    · exact wq_s ⟨k_I0_l8, trivial⟩
    · have l_0 := il_0
      refine wq_eq (fun hc_12678 => ?_) (fun hc_12679 => ?_)
      · have l_8 := il_8
        have t_12680 := ia_mul (8 : Int32) (8) il_8 r1 (by omega) (by omega)
        have t_12681 := ia_add ((8 : Int32) * r1) y8_4 (by omega) (by omega)
        refine wq_in (n := 64) ⟨by omega, by omega⟩ ?_
        refine wq_eq (fun hc_12682 => ?_) (fun hc_12683 => ?_)
        · unfold fX7_layNext_J43
          have t_12685 := or_sh x1 y8_4 ⟨by omega, by omega⟩ ⟨by omega, by omega⟩
          refine wq_v (fun v2_q12684 h_v2_q12684 => ?_)
          have t_v2_q12684 := congrArg Int32.toInt h_v2_q12684
          exact tt_fX7_layNext_L56 hN x1 x2 r1 v2_q12684 y8_4 (0 : Int32) _ ⟨by omega, by omega⟩ ⟨by omega, by omega⟩ ⟨by omega, by omega⟩ ⟨by omega, by omega⟩ ⟨by omega, by omega⟩ ⟨by omega, by omega⟩ (fun q0 q1 q2 hq0 hq1 hq2 => ih q0 q1 q2 hq0 hq1 (by omega)) N I0_l8 M0_l8 (0 : Int32) ⟨by omega, by omega⟩ k_I0_l8 (by omega)
        · unfold fX7_layNext_J43
          have t_12687 := or_sh x1 y8_4 ⟨by omega, by omega⟩ ⟨by omega, by omega⟩
          refine wq_v (fun v2_q12686 h_v2_q12686 => ?_)
          have t_v2_q12686 := congrArg Int32.toInt h_v2_q12686
          have l_1 := il_1
          exact tt_fX7_layNext_L56 hN x1 x2 r1 v2_q12686 y8_4 (1 : Int32) _ ⟨by omega, by omega⟩ ⟨by omega, by omega⟩ ⟨by omega, by omega⟩ ⟨by omega, by omega⟩ ⟨by omega, by omega⟩ ⟨by omega, by omega⟩ (fun q0 q1 q2 hq0 hq1 hq2 => ih q0 q1 q2 hq0 hq1 (by omega)) N I0_l8 M0_l8 (0 : Int32) ⟨by omega, by omega⟩ k_I0_l8 (by omega)
      · have l_1 := il_1
        have t_12689 := ia_add y8_4 (1 : Int32) (by omega) (by omega)
        refine wq_v (fun v6_q12688 h_v6_q12688 => ?_)
        have t_v6_q12688 := congrArg Int32.toInt h_v6_q12688
        exact ih I0_l8 M0_l8 v6_q12688 ⟨by omega, by omega⟩ k_I0_l8 (by omega)
set_option maxHeartbeats 4000000 in
theorem tt_fX7_layNext {N : Nat} (hN : 3000000000 ≤ N) (I0 : Nat → Int32) (M0 : Nat → Nat → Int32) (x1 : Int32) (x2 : Int32) (h_x1 : 0 ≤ x1.toInt ∧ x1.toInt ≤ 254) (h_x2 : 0 ≤ x2.toInt ∧ x2.toInt ≤ 8) (k_I0 : KX7 I0 M0) : wq (fX7_layNext N I0 M0 x1 x2) (fun r => KX7 r.1 r.2 ∧ True) := by
  unfold fX7_layNext
  refine wq_b (tt_fJ6_bitCount_0f7a4 hN x1) (fun r1_q12690 h_r1_q12690 => ?_)
  obtain ⟨h_r1_q12690_0, -⟩ := h_r1_q12690
  have l_0 := il_0
  exact tt_fX7_layNext_L8 hN x1 x2 r1_q12690 ⟨by omega, by omega⟩ ⟨by omega, by omega⟩ ⟨by omega, by omega⟩ N I0 M0 (0 : Int32) ⟨by omega, by omega⟩ k_I0 (by omega)
set_option maxHeartbeats 4000000 in
theorem tt_fX7_waysToHit_L49 {N : Nat} (hN : 3000000000 ≤ N) (x1 : Int32) (x2 : Int32) (v1 : Int32) (g24 : (Nat → Int32) → (Nat → Nat → Int32) → Int32 → Option (Int32 × (Nat → Int32) × (Nat → Nat → Int32))) (h_x1 : 0 ≤ x1.toInt ∧ x1.toInt ≤ 8) (h_x2 : 0 ≤ x2.toInt ∧ x2.toInt ≤ 2147483647) (h_v1 : 0 ≤ v1.toInt ∧ v1.toInt ≤ 255)  : ∀ (fu : Nat) (I0_l49 : (Nat → Int32)) (M0_l49 : (Nat → Nat → Int32)) (y49_4 : Int32) (y49_5 : Int32), (0 ≤ y49_5.toInt ∧ y49_5.toInt ≤ 2147483647) → (KX7 I0_l49 M0_l49) → (2147483647 - y49_5.toInt) < (fu : Int) → wq (fX7_waysToHit_L49 N x1 x2 v1 g24 fu I0_l49 M0_l49 y49_4 y49_5) (fun r => KX7 r.2.1 r.2.2 ∧ True) := by
  intro fu
  induction fu with
  | zero => intro I0_l49 M0_l49 y49_4 y49_5 h_y49_5 k_I0_l49 hm; exfalso; omega
  | succ fu ih =>
    intro I0_l49 M0_l49 y49_4 y49_5 h_y49_5 k_I0_l49 hm
    rw [fX7_waysToHit_L49.eq_2]
    have b_12999 := i32b y49_5
    refine wq_lt (fun hc_13000 => ?_) (fun hc_13001 => ?_)
    · have b_13002 := i32b y49_4
      exact wq_s ⟨k_I0_l49, trivial⟩
    · have l_9 := il_9
      have t_13003 := ia_mul (9 : Int32) (9) il_9 v1 (by omega) (by omega)
      have t_13004 := ia_add ((9 : Int32) * v1) y49_5 (by omega) (by omega)
      refine wq_in (n := 2304) ⟨by omega, by omega⟩ ?_
      have b_13006 := i32b y49_4
      refine wq_v (fun v5_q13005 h_v5_q13005 => ?_)
      have t_v5_q13005 := congrArg Int32.toInt h_v5_q13005
      have l_1 := il_1
      have t_13008 := ia_add y49_5 (1 : Int32) (by omega) (by omega)
      refine wq_v (fun v6_q13007 h_v6_q13007 => ?_)
      have t_v6_q13007 := congrArg Int32.toInt h_v6_q13007
      have b_13009 := i32b v5_q13005
      exact ih I0_l49 M0_l49 v5_q13005 v6_q13007 ⟨by omega, by omega⟩ k_I0_l49 (by omega)
set_option maxHeartbeats 4000000 in
theorem tt_fX7_waysToHit_L24 {N : Nat} (hN : 3000000000 ≤ N) (x1 : Int32) (x2 : Int32) (v1 : Int32) (h_x1 : 0 ≤ x1.toInt ∧ x1.toInt ≤ 8) (h_x2 : 0 ≤ x2.toInt ∧ x2.toInt ≤ 2147483647) (h_v1 : 0 ≤ v1.toInt ∧ v1.toInt ≤ 255)  : ∀ (fu : Nat) (I0_l24 : (Nat → Int32)) (M0_l24 : (Nat → Nat → Int32)) (y24_4 : Int32), (0 ≤ y24_4.toInt ∧ y24_4.toInt ≤ 255) → (KX7 I0_l24 M0_l24) → (255 - y24_4.toInt) < (fu : Int) → wq (fX7_waysToHit_L24 N x1 x2 v1 fu I0_l24 M0_l24 y24_4) (fun r => KX7 r.2.1 r.2.2 ∧ True) := by
  intro fu
  induction fu with
  | zero => intro I0_l24 M0_l24 y24_4 h_y24_4 k_I0_l24 hm; exfalso; omega
  | succ fu ih =>
    intro I0_l24 M0_l24 y24_4 h_y24_4 k_I0_l24 hm
    rw [fX7_waysToHit_L24.eq_2]
    refine wq_le (fun hc_13010 => ?_) (fun hc_13011 => ?_)
    · have b_13012 := i32b x2
      have l_0 := il_0
      exact tt_fX7_waysToHit_L49 hN x1 x2 v1 _ ⟨by omega, by omega⟩ ⟨by omega, by omega⟩ ⟨by omega, by omega⟩ N I0_l24 M0_l24 (0 : Int32) x2 ⟨by omega, by omega⟩ k_I0_l24 (by omega)
    · refine wq_b (tt_fX7_layNext hN I0_l24 M0_l24 y24_4 x1 ⟨by omega, by omega⟩ ⟨by omega, by omega⟩ k_I0_l24) (fun r7_q13013 h_r7_q13013 => ?_)
      obtain ⟨h_r7_q13013_0, -⟩ := h_r7_q13013
      have l_1 := il_1
      have t_13015 := ia_add y24_4 (1 : Int32) (by omega) (by omega)
      refine wq_v (fun v8_q13014 h_v8_q13014 => ?_)
      have t_v8_q13014 := congrArg Int32.toInt h_v8_q13014
      exact ih r7_q13013.1 r7_q13013.2 v8_q13014 ⟨by omega, by omega⟩ h_r7_q13013_0 (by omega)
set_option maxHeartbeats 4000000 in
theorem tt_fX7_waysToHit {N : Nat} (hN : 3000000000 ≤ N) (I0 : Nat → Int32) (M0 : Nat → Nat → Int32) (x1 : Int32) (x2 : Int32) (h_x1 : 0 ≤ x1.toInt ∧ x1.toInt ≤ 8) (h_x2 : 0 ≤ x2.toInt ∧ x2.toInt ≤ 2147483647) (k_I0 : KX7 I0 M0) : wq (fX7_waysToHit N I0 M0 x1 x2) (fun r => KX7 r.2.1 r.2.2 ∧ True) := by
  unfold fX7_waysToHit
  have t_13017 := sh_1 x1 ⟨by omega, by omega⟩
  have l_1 := il_1
  have t_13018 := ia_sub ((1 : Int32) <<< (x1 &&& 31)) (1 : Int32) (by omega) (by omega)
  refine wq_v (fun v1_q13016 h_v1_q13016 => ?_)
  have t_v1_q13016 := congrArg Int32.toInt h_v1_q13016
  have l_0 := il_0
  refine wq_b (tt_fJ7_fill_53178 hN 2304 (M0 5) (0 : Int32) (by omega)) (fun r2_q13019 h_r2_q13019 => ?_)
  obtain ⟨h_r2_q13019_0, -⟩ := h_r2_q13019
  refine wq_v (fun M0_3_q13020 h_M0_3_q13020 => ?_)
  have k_M0_3_q13020 : KX7 I0 M0_3_q13020 := by rw [h_M0_3_q13020]; exact KX7.sf5 k_I0
  refine wq_in (n := 2304) ⟨by omega, by omega⟩ ?_
  refine wq_v (fun M0_4_q13021 h_M0_4_q13021 => ?_)
  have k_M0_4_q13021 : KX7 I0 M0_4_q13021 := by rw [h_M0_4_q13021]; exact KX7.sm5 k_M0_3_q13020
  have b_13022 := i32b x2
  exact tt_fX7_waysToHit_L24 hN x1 x2 v1_q13016 ⟨by omega, by omega⟩ ⟨by omega, by omega⟩ ⟨by omega, by omega⟩ N I0 M0_4_q13021 (0 : Int32) ⟨by omega, by omega⟩ k_M0_4_q13021 (by omega)
set_option maxHeartbeats 4000000 in
theorem tt_fX7_chanceOfLives_L27 {N : Nat} (hN : 3000000000 ≤ N) (x1 : Int32) (v2 : Int32) (y19_3 : Int32) (g19 : (Nat → Int32) → (Nat → Nat → Int32) → Int32 → Option (Int32 × (Nat → Int32) × (Nat → Nat → Int32))) (h_v2 : 1 ≤ v2.toInt ∧ v2.toInt ≤ 8) (h_y19_3 : 0 ≤ y19_3.toInt ∧ y19_3.toInt ≤ 7) (hg19 : ∀ (q0 : (Nat → Int32)) (q1 : (Nat → Nat → Int32)) (q2 : Int32), (0 ≤ q2.toInt ∧ q2.toInt ≤ 8) → (KX7 q0 q1) → (y19_3.toInt < q2.toInt) → wq (g19 q0 q1 q2) (fun r => KX7 r.2.1 r.2.2 ∧ True)) : ∀ (fu : Nat) (I0_l27 : (Nat → Int32)) (M0_l27 : (Nat → Nat → Int32)) (y27_4 : Int32), (0 ≤ y27_4.toInt ∧ y27_4.toInt ≤ 8) → (KX7 I0_l27 M0_l27) → (8 - y27_4.toInt) < (fu : Int) → wq (fX7_chanceOfLives_L27 N x1 v2 y19_3 g19 fu I0_l27 M0_l27 y27_4) (fun r => KX7 r.2.1 r.2.2 ∧ True) := by
  intro fu
  induction fu with
  | zero => intro I0_l27 M0_l27 y27_4 h_y27_4 k_I0_l27 hm; exfalso; omega
  | succ fu ih =>
    intro I0_l27 M0_l27 y27_4 h_y27_4 k_I0_l27 hm
    rw [fX7_chanceOfLives_L27.eq_2]
    refine wq_le (fun hc_13271 => ?_) (fun hc_13272 => ?_)
    · have l_1 := il_1
      have t_13274 := ia_add y19_3 (1 : Int32) (by omega) (by omega)
      refine wq_v (fun v5_q13273 h_v5_q13273 => ?_)
      have t_v5_q13273 := congrArg Int32.toInt h_v5_q13273
      exact hg19 I0_l27 M0_l27 v5_q13273 ⟨by omega, by omega⟩ k_I0_l27 (by omega)
    · refine wq_in (n := 20) ⟨by omega, by omega⟩ ?_
      refine wq_in (n := 20) ⟨by omega, by omega⟩ ?_
      have t_13275 := KX7.m3 k_I0_l27 y27_4.toNatClampNeg
      refine wq_in (n := 20) ⟨by omega, by omega⟩ ?_
      have t_13276 := KX7.m3 k_I0_l27 y19_3.toNatClampNeg
      have b_13277 := i32b x1
      refine wq_b (tt_fX7_isHit hN I0_l27 M0_l27 (M0_l27 3 y19_3.toNatClampNeg) (M0_l27 1 (M0_l27 3 y27_4.toNatClampNeg).toNatClampNeg) x1 ⟨by omega, by omega⟩ k_I0_l27) (fun r6_q13278 h_r6_q13278 => ?_)
      obtain ⟨h_r6_q13278_0, -⟩ := h_r6_q13278
      have l_8 := il_8
      have t_13279 := ia_mul (8 : Int32) (8) il_8 y19_3 (by omega) (by omega)
      have t_13280 := ia_add ((8 : Int32) * y19_3) y27_4 (by omega) (by omega)
      refine wq_in (n := 64) ⟨by omega, by omega⟩ ?_
      refine wq_v (fun M0_7_q13281 h_M0_7_q13281 => ?_)
      have k_M0_7_q13281 : KX7 I0_l27 M0_7_q13281 := by rw [h_M0_7_q13281]; exact KX7.sm4 k_I0_l27
      have l_1 := il_1
      have t_13283 := ia_add y27_4 (1 : Int32) (by omega) (by omega)
      refine wq_v (fun v8_q13282 h_v8_q13282 => ?_)
      have t_v8_q13282 := congrArg Int32.toInt h_v8_q13282
      exact ih I0_l27 M0_7_q13281 v8_q13282 ⟨by omega, by omega⟩ k_M0_7_q13281 (by omega)
set_option maxHeartbeats 4000000 in
theorem tt_fX7_chanceOfLives_L19 {N : Nat} (hN : 3000000000 ≤ N) (x1 : Int32) (v2 : Int32) (h_v2 : 0 ≤ v2.toInt ∧ v2.toInt ≤ 8)  : ∀ (fu : Nat) (I0_l19 : (Nat → Int32)) (M0_l19 : (Nat → Nat → Int32)) (y19_3 : Int32), (0 ≤ y19_3.toInt ∧ y19_3.toInt ≤ 8) → (KX7 I0_l19 M0_l19) → (8 - y19_3.toInt) < (fu : Int) → wq (fX7_chanceOfLives_L19 N x1 v2 fu I0_l19 M0_l19 y19_3) (fun r => KX7 r.2.1 r.2.2 ∧ True) := by
  intro fu
  induction fu with
  | zero => intro I0_l19 M0_l19 y19_3 h_y19_3 k_I0_l19 hm; exfalso; omega
  | succ fu ih =>
    intro I0_l19 M0_l19 y19_3 h_y19_3 k_I0_l19 hm
    rw [fX7_chanceOfLives_L19.eq_2]
    refine wq_le (fun hc_13284 => ?_) (fun hc_13285 => ?_)
    · have b_13286 := i32b x1
      refine wq_b (tt_fX7_howManyHits hN I0_l19 M0_l19 x1 k_I0_l19) (fun r3_q13287 h_r3_q13287 => ?_)
      obtain ⟨h_r3_q13287_0, h_r3_q13287_1, -⟩ := h_r3_q13287
      refine wq_b (tt_fX7_waysToHit hN r3_q13287.2.1 r3_q13287.2.2 v2 r3_q13287.1 ⟨by omega, by omega⟩ ⟨by omega, by omega⟩ h_r3_q13287_1) (fun r4_q13288 h_r4_q13288 => ?_)
      obtain ⟨h_r4_q13288_0, -⟩ := h_r4_q13288
      have b_13289 := i32b r4_q13288.1
      exact wq_s ⟨h_r4_q13288_0, trivial⟩
    · have b_13290 := i32b x1
      have l_0 := il_0
      exact tt_fX7_chanceOfLives_L27 hN x1 v2 y19_3 _ ⟨by omega, by omega⟩ ⟨by omega, by omega⟩ (fun q0 q1 q2 hq0 hq1 hq2 => ih q0 q1 q2 hq0 hq1 (by omega)) N I0_l19 M0_l19 (0 : Int32) ⟨by omega, by omega⟩ k_I0_l19 (by omega)
set_option maxHeartbeats 4000000 in
theorem tt_fX7_chanceOfLives {N : Nat} (hN : 3000000000 ≤ N) (I0 : Nat → Int32) (M0 : Nat → Nat → Int32) (x1 : Int32) (k_I0 : KX7 I0 M0) : wq (fX7_chanceOfLives N I0 M0 x1) (fun r => KX7 r.2.1 r.2.2 ∧ True) := by
  unfold fX7_chanceOfLives
  refine wq_b (tt_fX7_setRows_11 hN I0 M0 k_I0) (fun r1_q13291 h_r1_q13291 => ?_)
  obtain ⟨h_r1_q13291_0, h_r1_q13291_1, -⟩ := h_r1_q13291
  refine wq_v (fun v2_q13292 h_v2_q13292 => ?_)
  have t_v2_q13292 := congrArg Int32.toInt h_v2_q13292
  have l_8 := il_8
  refine wq_le (fun hc_13293 => ?_) (fun hc_13294 => ?_)
  · have b_13295 := i32b x1
    have l_0 := il_0
    exact tt_fX7_chanceOfLives_L19 hN x1 v2_q13292 ⟨by omega, by omega⟩ N r1_q13291.2.1 r1_q13291.2.2 (0 : Int32) ⟨by omega, by omega⟩ h_r1_q13291_1 (by omega)
  · have l_m1 := il_m1
    exact wq_s ⟨h_r1_q13291_1, trivial⟩
set_option maxHeartbeats 4000000 in
theorem tt_fX7_isToldByLot {N : Nat} (hN : 3000000000 ≤ N) (I0 : Nat → Int32) (M0 : Nat → Nat → Int32) (x1 : Int32) (x2 : Int32) (h_x1 : 0 ≤ x1.toInt ∧ x1.toInt ≤ 119) (k_I0 : KX1 I0 M0) : wq (fX7_isToldByLot N I0 M0 x1 x2) (fun r => (0 ≤ r.toInt ∧ r.toInt ≤ 1) ∧ True) := by
  unfold fX7_isToldByLot
  have l_8 := il_8
  refine wq_b (tt_fX1_degreeOf hN I0 M0 x1 (8 : Int32) ⟨by omega, by omega⟩ ⟨by omega, by omega⟩ k_I0) (fun r1_q13368 h_r1_q13368 => ?_)
  obtain ⟨h_r1_q13368_0, h_r1_q13368_1, -⟩ := h_r1_q13368
  have l_7 := il_7
  refine wq_b (tt_fX1_degreeOf hN I0 M0 x1 (7 : Int32) ⟨by omega, by omega⟩ ⟨by omega, by omega⟩ k_I0) (fun r2_q13369 h_r2_q13369 => ?_)
  obtain ⟨h_r2_q13369_0, h_r2_q13369_1, -⟩ := h_r2_q13369
  have l_m1 := il_m1
  refine wq_eq (fun hc_13370 => ?_) (fun hc_13371 => ?_)
  · have l_0 := il_0
    exact wq_s ⟨(show 0 ≤ (0 : Int32).toInt ∧ (0 : Int32).toInt ≤ 1 from ⟨by omega, by omega⟩), trivial⟩
  · refine wq_eq (fun hc_13372 => ?_) (fun hc_13373 => ?_)
    · have l_0 := il_0
      exact wq_s ⟨(show 0 ≤ (0 : Int32).toInt ∧ (0 : Int32).toInt ≤ 1 from ⟨by omega, by omega⟩), trivial⟩
    · have l_30 := il_30
      have t_13374 := ia_div r1_q13368 (30 : Int32) 30 il_30 (by decide) (by omega)
      have t_13375 := ia_div r2_q13369 (30 : Int32) 30 il_30 (by decide) (by omega)
      have b_13376 := i32b x2
      have l_1 := il_1
      have l_12 := il_12
      have t_13377 := ia_rem2 (((r2_q13369 / (30 : Int32)) + x2) - (1 : Int32)) (12 : Int32) 12 il_12 (by decide)
      refine wq_eq (fun hc_13378 => ?_) (fun hc_13379 => ?_)
      · exact wq_s ⟨(show 0 ≤ (1 : Int32).toInt ∧ (1 : Int32).toInt ≤ 1 from ⟨by omega, by omega⟩), trivial⟩
      · have l_0 := il_0
        exact wq_s ⟨(show 0 ≤ (0 : Int32).toInt ∧ (0 : Int32).toInt ≤ 1 from ⟨by omega, by omega⟩), trivial⟩
set_option maxHeartbeats 4000000 in
theorem tt_fX7_howManyToldByLot_L14 {N : Nat} (hN : 3000000000 ≤ N) (I1 : Nat → Int32) (M1 : Nat → Nat → Int32) (v2 : Int32) (h_v2 : 0 ≤ v2.toInt ∧ v2.toInt ≤ 20) (k_I1 : KX1 I1 M1)  : ∀ (fu : Nat) (I0_l14 : (Nat → Int32)) (M0_l14 : (Nat → Nat → Int32)) (y14_3 : Int32) (y14_4 : Int32), (0 ≤ y14_3.toInt ∧ y14_3.toInt ≤ 20) → (0 ≤ y14_4.toInt ∧ y14_4.toInt ≤ 20) → (KX7 I0_l14 M0_l14) → (y14_3.toInt ≤ y14_4.toInt) → (20 - y14_4.toInt) < (fu : Int) → wq (fX7_howManyToldByLot_L14 N I1 M1 v2 fu I0_l14 M0_l14 y14_3 y14_4) (fun r => (0 ≤ r.1.toInt ∧ r.1.toInt ≤ 20) ∧ KX7 r.2.1 r.2.2 ∧ True) := by
  intro fu
  induction fu with
  | zero => intro I0_l14 M0_l14 y14_3 y14_4 h_y14_3 h_y14_4 k_I0_l14 hl_3 hm; exfalso; omega
  | succ fu ih =>
    intro I0_l14 M0_l14 y14_3 y14_4 h_y14_3 h_y14_4 k_I0_l14 hl_3 hm
    rw [fX7_howManyToldByLot_L14.eq_2]
    refine wq_le (fun hc_13506 => ?_) (fun hc_13507 => ?_)
    · exact wq_s ⟨(show 0 ≤ y14_3.toInt ∧ y14_3.toInt ≤ 20 from ⟨by omega, by omega⟩), k_I0_l14, trivial⟩
    · refine wq_in (n := 20) ⟨by omega, by omega⟩ ?_
      refine wq_in (n := 20) ⟨by omega, by omega⟩ ?_
      have t_13508 := KX7.m3 k_I0_l14 y14_4.toNatClampNeg
      refine wq_in (n := 20) ⟨by omega, by omega⟩ ?_
      refine wq_b (tt_fX7_isToldByLot hN I1 M1 (M0_l14 3 y14_4.toNatClampNeg) (M0_l14 2 (M0_l14 3 y14_4.toNatClampNeg).toNatClampNeg) ⟨by omega, by omega⟩ k_I1) (fun r3_q13509 h_r3_q13509 => ?_)
      obtain ⟨h_r3_q13509_0, -⟩ := h_r3_q13509
      have l_0 := il_0
      refine wq_eq (fun hc_13510 => ?_) (fun hc_13511 => ?_)
      · have l_1 := il_1
        have t_13513 := ia_add y14_4 (1 : Int32) (by omega) (by omega)
        refine wq_v (fun v4_q13512 h_v4_q13512 => ?_)
        have t_v4_q13512 := congrArg Int32.toInt h_v4_q13512
        exact ih I0_l14 M0_l14 y14_3 v4_q13512 ⟨by omega, by omega⟩ ⟨by omega, by omega⟩ k_I0_l14 (by omega) (by omega)
      · have l_1 := il_1
        have t_13515 := ia_add y14_3 (1 : Int32) (by omega) (by omega)
        refine wq_v (fun v5_q13514 h_v5_q13514 => ?_)
        have t_v5_q13514 := congrArg Int32.toInt h_v5_q13514
        have t_13517 := ia_add y14_4 (1 : Int32) (by omega) (by omega)
        refine wq_v (fun v6_q13516 h_v6_q13516 => ?_)
        have t_v6_q13516 := congrArg Int32.toInt h_v6_q13516
        exact ih I0_l14 M0_l14 v5_q13514 v6_q13516 ⟨by omega, by omega⟩ ⟨by omega, by omega⟩ k_I0_l14 (by omega) (by omega)
set_option maxHeartbeats 4000000 in
theorem tt_fX7_howManyToldByLot {N : Nat} (hN : 3000000000 ≤ N) (I0 : Nat → Int32) (M0 : Nat → Nat → Int32) (I1 : Nat → Int32) (M1 : Nat → Nat → Int32) (k_I0 : KX7 I0 M0) (k_I1 : KX1 I1 M1) : wq (fX7_howManyToldByLot N I0 M0 I1 M1) (fun r => (0 ≤ r.1.toInt ∧ r.1.toInt ≤ 20) ∧ KX7 r.2.1 r.2.2 ∧ True) := by
  unfold fX7_howManyToldByLot
  refine wq_b (tt_fX7_setRows_13 hN I0 M0 k_I0) (fun r1_q13518 h_r1_q13518 => ?_)
  obtain ⟨h_r1_q13518_0, h_r1_q13518_1, -⟩ := h_r1_q13518
  refine wq_v (fun v2_q13519 h_v2_q13519 => ?_)
  have t_v2_q13519 := congrArg Int32.toInt h_v2_q13519
  have l_0 := il_0
  exact tt_fX7_howManyToldByLot_L14 hN I1 M1 v2_q13519 ⟨by omega, by omega⟩ k_I1 N r1_q13518.2.1 r1_q13518.2.2 (0 : Int32) (0 : Int32) ⟨by omega, by omega⟩ ⟨by omega, by omega⟩ h_r1_q13518_1 (by omega) (by omega)
set_option maxHeartbeats 4000000 in
theorem tt_fX7_chanceOfFates_L27 {N : Nat} (hN : 3000000000 ≤ N) (I1 : Nat → Int32) (M1 : Nat → Nat → Int32) (v2 : Int32) (y19_3 : Int32) (g19 : (Nat → Int32) → (Nat → Nat → Int32) → Int32 → Option (Int32 × (Nat → Int32) × (Nat → Nat → Int32))) (h_v2 : 1 ≤ v2.toInt ∧ v2.toInt ≤ 8) (h_y19_3 : 0 ≤ y19_3.toInt ∧ y19_3.toInt ≤ 7) (k_I1 : KX1 I1 M1) (hg19 : ∀ (q0 : (Nat → Int32)) (q1 : (Nat → Nat → Int32)) (q2 : Int32), (0 ≤ q2.toInt ∧ q2.toInt ≤ 8) → (KX7 q0 q1) → (y19_3.toInt < q2.toInt) → wq (g19 q0 q1 q2) (fun r => KX7 r.2.1 r.2.2 ∧ True)) : ∀ (fu : Nat) (I0_l27 : (Nat → Int32)) (M0_l27 : (Nat → Nat → Int32)) (y27_4 : Int32), (0 ≤ y27_4.toInt ∧ y27_4.toInt ≤ 8) → (KX7 I0_l27 M0_l27) → (8 - y27_4.toInt) < (fu : Int) → wq (fX7_chanceOfFates_L27 N I1 M1 v2 y19_3 g19 fu I0_l27 M0_l27 y27_4) (fun r => KX7 r.2.1 r.2.2 ∧ True) := by
  intro fu
  induction fu with
  | zero => intro I0_l27 M0_l27 y27_4 h_y27_4 k_I0_l27 hm; exfalso; omega
  | succ fu ih =>
    intro I0_l27 M0_l27 y27_4 h_y27_4 k_I0_l27 hm
    rw [fX7_chanceOfFates_L27.eq_2]
    refine wq_le (fun hc_13728 => ?_) (fun hc_13729 => ?_)
    · have l_1 := il_1
      have t_13731 := ia_add y19_3 (1 : Int32) (by omega) (by omega)
      refine wq_v (fun v5_q13730 h_v5_q13730 => ?_)
      have t_v5_q13730 := congrArg Int32.toInt h_v5_q13730
      exact hg19 I0_l27 M0_l27 v5_q13730 ⟨by omega, by omega⟩ k_I0_l27 (by omega)
    · refine wq_in (n := 20) ⟨by omega, by omega⟩ ?_
      refine wq_in (n := 20) ⟨by omega, by omega⟩ ?_
      have t_13732 := KX7.m3 k_I0_l27 y27_4.toNatClampNeg
      refine wq_in (n := 20) ⟨by omega, by omega⟩ ?_
      have t_13733 := KX7.m3 k_I0_l27 y19_3.toNatClampNeg
      refine wq_b (tt_fX7_isToldByLot hN I1 M1 (M0_l27 3 y19_3.toNatClampNeg) (M0_l27 2 (M0_l27 3 y27_4.toNatClampNeg).toNatClampNeg) ⟨by omega, by omega⟩ k_I1) (fun r6_q13734 h_r6_q13734 => ?_)
      obtain ⟨h_r6_q13734_0, -⟩ := h_r6_q13734
      have l_8 := il_8
      have t_13735 := ia_mul (8 : Int32) (8) il_8 y19_3 (by omega) (by omega)
      have t_13736 := ia_add ((8 : Int32) * y19_3) y27_4 (by omega) (by omega)
      refine wq_in (n := 64) ⟨by omega, by omega⟩ ?_
      refine wq_v (fun M0_7_q13737 h_M0_7_q13737 => ?_)
      have k_M0_7_q13737 : KX7 I0_l27 M0_7_q13737 := by rw [h_M0_7_q13737]; exact KX7.sm4 k_I0_l27
      have l_1 := il_1
      have t_13739 := ia_add y27_4 (1 : Int32) (by omega) (by omega)
      refine wq_v (fun v8_q13738 h_v8_q13738 => ?_)
      have t_v8_q13738 := congrArg Int32.toInt h_v8_q13738
      exact ih I0_l27 M0_7_q13737 v8_q13738 ⟨by omega, by omega⟩ k_M0_7_q13737 (by omega)
set_option maxHeartbeats 4000000 in
theorem tt_fX7_chanceOfFates_L19 {N : Nat} (hN : 3000000000 ≤ N) (I1 : Nat → Int32) (M1 : Nat → Nat → Int32) (v2 : Int32) (h_v2 : 0 ≤ v2.toInt ∧ v2.toInt ≤ 8) (k_I1 : KX1 I1 M1)  : ∀ (fu : Nat) (I0_l19 : (Nat → Int32)) (M0_l19 : (Nat → Nat → Int32)) (y19_3 : Int32), (0 ≤ y19_3.toInt ∧ y19_3.toInt ≤ 8) → (KX7 I0_l19 M0_l19) → (8 - y19_3.toInt) < (fu : Int) → wq (fX7_chanceOfFates_L19 N I1 M1 v2 fu I0_l19 M0_l19 y19_3) (fun r => KX7 r.2.1 r.2.2 ∧ True) := by
  intro fu
  induction fu with
  | zero => intro I0_l19 M0_l19 y19_3 h_y19_3 k_I0_l19 hm; exfalso; omega
  | succ fu ih =>
    intro I0_l19 M0_l19 y19_3 h_y19_3 k_I0_l19 hm
    rw [fX7_chanceOfFates_L19.eq_2]
    refine wq_le (fun hc_13740 => ?_) (fun hc_13741 => ?_)
    · refine wq_b (tt_fX7_howManyToldByLot hN I0_l19 M0_l19 I1 M1 k_I0_l19 k_I1) (fun r3_q13742 h_r3_q13742 => ?_)
      obtain ⟨h_r3_q13742_0, h_r3_q13742_1, -⟩ := h_r3_q13742
      refine wq_b (tt_fX7_waysToHit hN r3_q13742.2.1 r3_q13742.2.2 v2 r3_q13742.1 ⟨by omega, by omega⟩ ⟨by omega, by omega⟩ h_r3_q13742_1) (fun r4_q13743 h_r4_q13743 => ?_)
      obtain ⟨h_r4_q13743_0, -⟩ := h_r4_q13743
      have b_13744 := i32b r4_q13743.1
      exact wq_s ⟨h_r4_q13743_0, trivial⟩
    · have l_0 := il_0
      exact tt_fX7_chanceOfFates_L27 hN I1 M1 v2 y19_3 _ ⟨by omega, by omega⟩ ⟨by omega, by omega⟩ k_I1 (fun q0 q1 q2 hq0 hq1 hq2 => ih q0 q1 q2 hq0 hq1 (by omega)) N I0_l19 M0_l19 (0 : Int32) ⟨by omega, by omega⟩ k_I0_l19 (by omega)
set_option maxHeartbeats 4000000 in
theorem tt_fX7_chanceOfFates {N : Nat} (hN : 3000000000 ≤ N) (I0 : Nat → Int32) (M0 : Nat → Nat → Int32) (I1 : Nat → Int32) (M1 : Nat → Nat → Int32) (k_I0 : KX7 I0 M0) (k_I1 : KX1 I1 M1) : wq (fX7_chanceOfFates N I0 M0 I1 M1) (fun r => KX7 r.2.1 r.2.2 ∧ True) := by
  unfold fX7_chanceOfFates
  refine wq_b (tt_fX7_setRows_13 hN I0 M0 k_I0) (fun r1_q13745 h_r1_q13745 => ?_)
  obtain ⟨h_r1_q13745_0, h_r1_q13745_1, -⟩ := h_r1_q13745
  refine wq_v (fun v2_q13746 h_v2_q13746 => ?_)
  have t_v2_q13746 := congrArg Int32.toInt h_v2_q13746
  have l_8 := il_8
  refine wq_le (fun hc_13747 => ?_) (fun hc_13748 => ?_)
  · have l_0 := il_0
    exact tt_fX7_chanceOfFates_L19 hN I1 M1 v2_q13746 ⟨by omega, by omega⟩ k_I1 N r1_q13745.2.1 r1_q13745.2.2 (0 : Int32) ⟨by omega, by omega⟩ h_r1_q13745_1 (by omega)
  · have l_m1 := il_m1
    exact wq_s ⟨h_r1_q13745_1, trivial⟩
theorem tt_fX8_begin {N : Nat} (hN : 3000000000 ≤ N) (I0 : Nat → Int32) (M0 : Nat → Nat → Int32) (x1 : Int32) (x2 : Int32) (x3 : Int32) (h_x1 : 0 ≤ x1.toInt ∧ x1.toInt ≤ 119) (h_x2 : 0 ≤ x2.toInt ∧ x2.toInt ≤ 3) (h_x3 : 0 ≤ x3.toInt ∧ x3.toInt ≤ 1000000) (k_I0 : KX8 I0 M0) : wq (fX8_begin N I0 M0 x1 x2 x3) (fun r => KX8 r.1 r.2 ∧ True) := by
  refine ⟨_, rfl, ?_, trivial⟩
  refine ⟨(show 0 ≤ (1 : Int32).toInt ∧ (1 : Int32).toInt ≤ 1 from by decide), h_x1, h_x2, ⟨h_x3.1, ?_⟩, (show 0 ≤ (0 : Int32).toInt ∧ (0 : Int32).toInt ≤ 1000001 from by decide), ?_, trivial⟩
  · show x3.toInt ≤ 1000001
    omega
  · show (0 : Int32).toInt ≤ x3.toInt
    rw [il_0]; exact h_x3.1
theorem tt_fX8_copyFrom {N : Nat} (hN : 3000000000 ≤ N) (I0 : Nat → Int32) (M0 : Nat → Nat → Int32) (I1 : Nat → Int32) (M1 : Nat → Nat → Int32) (k_I0 : KX8 I0 M0) (k_I1 : KX8 I1 M1) : wq (fX8_copyFrom N I0 M0 I1 M1) (fun r => KX8 r.1 r.2 ∧ True) := by
  unfold fX8_copyFrom
  refine wq_nb (k_I1.i0) ?_
  refine ⟨_, rfl, ?_, trivial⟩
  exact ⟨k_I1.i0, k_I1.i1, k_I1.i2, k_I1.i3, k_I1.i5, k_I1.emn, trivial⟩
theorem tt_lk (N : Nat) (x1 : Int32) (I0 : Nat → Int32) (M0 : Nat → Nat → Int32) (h0 : 0 ≤ (I0 0).toInt ∧ (I0 0).toInt ≤ 1) (h1 : 0 ≤ (I0 1).toInt ∧ (I0 1).toInt ≤ 119) (h2 : 0 ≤ (I0 2).toInt ∧ (I0 2).toInt ≤ 3) (h3 : 0 ≤ (I0 3).toInt ∧ (I0 3).toInt ≤ 1000000) (h5 : 0 ≤ (I0 5).toInt ∧ (I0 5).toInt ≤ (I0 3).toInt) : wq (fX8_lookAt_J27 N x1 I0 M0) (fun r => (0 ≤ (r.1 0).toInt ∧ (r.1 0).toInt ≤ 1) ∧ (0 ≤ (r.1 1).toInt ∧ (r.1 1).toInt ≤ 119) ∧ (0 ≤ (r.1 2).toInt ∧ (r.1 2).toInt ≤ 3) ∧ r.1 3 = I0 3 ∧ (0 ≤ (r.1 5).toInt ∧ (r.1 5).toInt ≤ (I0 3).toInt + 1)) := by
  have l_1 := il_1
  have l_20 := il_20
  have ta := ia_add (I0 5) (1 : Int32) (by omega) (by omega)
  have hJ : ∀ M : Nat → Nat → Int32, wq (fX8_lookAt_J49 N x1 I0 M) (fun r => (0 ≤ (r.1 0).toInt ∧ (r.1 0).toInt ≤ 1) ∧ (0 ≤ (r.1 1).toInt ∧ (r.1 1).toInt ≤ 119) ∧ (0 ≤ (r.1 2).toInt ∧ (r.1 2).toInt ≤ 3) ∧ r.1 3 = I0 3 ∧ (0 ≤ (r.1 5).toInt ∧ (r.1 5).toInt ≤ (I0 3).toInt + 1)) := by
    intro M
    refine ⟨_, rfl, h0, h1, h2, rfl, ?_⟩
    show 0 ≤ (I0 5 + 1).toInt ∧ (I0 5 + 1).toInt ≤ (I0 3).toInt + 1
    omega
  unfold fX8_lookAt_J27
  refine wq_le (fun hc => ?_) (fun hc => ?_)
  · exact hJ _
  · refine wq_in (n := 20) ⟨by omega, by omega⟩ ?_
    exact wq_v (fun M _ => hJ M)
theorem tt_look (N : Nat) (I0 : Nat → Int32) (M0 : Nat → Nat → Int32) (x1 : Int32) (k : KX8 I0 M0) (h3 : (I0 3).toInt ≤ 1000000) : wq (fX8_lookAt N I0 M0 x1) (fun r => (0 ≤ (r.1 0).toInt ∧ (r.1 0).toInt ≤ 1) ∧ (0 ≤ (r.1 1).toInt ∧ (r.1 1).toInt ≤ 119) ∧ (0 ≤ (r.1 2).toInt ∧ (r.1 2).toInt ≤ 3) ∧ r.1 3 = I0 3 ∧ (0 ≤ (r.1 5).toInt ∧ (r.1 5).toInt ≤ (I0 3).toInt + 1)) := by
  unfold fX8_lookAt
  have h5 := k.i5
  have hm := k.emn
  have h3' := k.i3
  refine wq_le (fun hc => ?_) (fun hc => ?_)
  · refine wq_le (fun hc => ?_) (fun hc => ?_)
    · exact tt_lk N x1 I0 M0 k.i0 k.i1 k.i2 ⟨h3'.1, h3⟩ ⟨h5.1, hm⟩
    · refine wq_v (fun I4 e4 => ?_)
      refine wq_v (fun I5 e5 => ?_)
      subst e4
      have q3 : I5 3 = I0 3 := by rw [e5]; rfl
      have q5 : I5 5 = 0 := by rw [e5]; rfl
      have w := tt_lk N x1 I5 M0 (by rw [e5]; exact k.i0) (by rw [e5]; exact k.i1) (by rw [e5]; exact k.i2) (by rw [q3]; exact ⟨h3'.1, h3⟩) (by rw [q3, q5, il_0]; exact ⟨by decide, h3'.1⟩)
      rw [q3] at w
      exact w
  · exact wq_s ⟨k.i0, k.i1, k.i2, rfl, h5.1, (show (I0 5).toInt ≤ (I0 3).toInt + 1 from by omega)⟩
theorem tt_fX8_goOn_L3 {N : Nat} (hN : 3000000000 ≤ N) (I1 : Nat → Int32) (M1 : Nat → Nat → Int32) (I2 : Nat → Int32) (M2 : Nat → Nat → Int32) (x3 : Int32) (k_I1 : KX5 I1 M1) (k_I2 : KX1 I2 M2) : ∀ (fu : Nat) (I0 : Nat → Int32) (M0 : Nat → Nat → Int32) (y : Int32), KX8 I0 M0 → (0 ≤ y.toInt) → (x3.toInt - y.toInt < (fu : Int)) → 0 < fu → wq (fX8_goOn_L3 N I1 M1 I2 M2 x3 fu I0 M0 y) (fun r => KX8 r.2.1 r.2.2 ∧ True) := by
  intro fu
  induction fu with
  | zero => intro I0 M0 y k hy hm h0; omega
  | succ fu ih =>
    intro I0 M0 y k hy hm h0
    rw [fX8_goOn_L3.eq_2]
    have l_1 := il_1
    have l_m := il_1000000
    refine wq_le (fun hc => ?_) (fun hc => ?_)
    · exact wq_s ⟨k, trivial⟩
    · refine wq_lt (fun hc2 => ?_) (fun hc2 => ?_)
      · exact wq_s ⟨k, trivial⟩
      · have h1 := k.i1
        have h2 := k.i2
        have h3 := k.i3
        refine wq_b (tt_fX3_costOn hN I1 M1 I2 M2 (I0 1) (I0 2) (I0 3) (I0 4) h1 h2 ⟨by omega, by omega⟩ k_I1 k_I2) (fun r1 _ => ?_)
        refine wq_b (tt_look N I0 M0 r1 k (by omega)) (fun r2 h => ?_)
        obtain ⟨g0, g1, g2, g3, g5⟩ := h
        have hx := Int32.toInt_lt x3
        have ta := ia_add (I0 3) (1 : Int32) (by omega) (by omega)
        have tb := ia_add y (1 : Int32) (by omega) (by omega)
        refine wq_v (fun I3 e3 => ?_)
        refine wq_v (fun v ev => ?_)
        have tv := congrArg Int32.toInt ev
        refine ih I3 r2.2 v ?_ (by omega) (by omega) (by omega)
        rw [e3, g3]
        refine ⟨g0, g1, g2, ?_, ?_, ?_, trivial⟩
        · show 0 ≤ (I0 3 + 1).toInt ∧ (I0 3 + 1).toInt ≤ 1000001
          omega
        · show 0 ≤ (r2.1 5).toInt ∧ (r2.1 5).toInt ≤ 1000001
          omega
        · show (r2.1 5).toInt ≤ (I0 3 + 1).toInt
          omega
theorem tt_fX8_goOn {N : Nat} (hN : 3000000000 ≤ N) (I0 : Nat → Int32) (M0 : Nat → Nat → Int32) (I1 : Nat → Int32) (M1 : Nat → Nat → Int32) (I2 : Nat → Int32) (M2 : Nat → Nat → Int32) (x3 : Int32) (k_I0 : KX8 I0 M0) (k_I1 : KX5 I1 M1) (k_I2 : KX1 I2 M2) : wq (fX8_goOn N I0 M0 I1 M1 I2 M2 x3) (fun r => KX8 r.2.1 r.2.2 ∧ True) := by
  unfold fX8_goOn
  have l_0 := il_0
  have hx := Int32.toInt_lt x3
  exact tt_fX8_goOn_L3 hN I1 M1 I2 M2 x3 k_I1 k_I2 N I0 M0 (0 : Int32) k_I0 (by omega) (by omega) (by omega)
set_option maxHeartbeats 4000000 in
theorem tt_fX8_howManyKept {N : Nat} (hN : 3000000000 ≤ N) (I0 : Nat → Int32) (M0 : Nat → Nat → Int32) (k_I0 : KX8 I0 M0) : wq (fX8_howManyKept N I0 M0) (fun r => (0 ≤ r.toInt ∧ r.toInt ≤ 20) ∧ True) := by
  unfold fX8_howManyKept
  have l_20 := il_20
  have t_13761 := KX8.i5 k_I0
  have t_13762 := ite_lt (20 : Int32) (I0 5) (20 : Int32) (I0 5)
  exact wq_s ⟨(show 0 ≤ (if ((20 : Int32) < (I0 5)) then (20 : Int32) else (I0 5)).toInt ∧ (if ((20 : Int32) < (I0 5)) then (20 : Int32) else (I0 5)).toInt ≤ 20 from ⟨by omega, by omega⟩), trivial⟩

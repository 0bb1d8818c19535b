set_option maxHeartbeats 4000000 in
theorem tt_fX12_handed {N : Nat} (hN : 3000000000 ≤ N) (I0 : Nat → Int32) (L0 : Int64) (M0 : Nat → Nat → Int32) (x1 : Int32) (x2 : Int32) (x3 : Int32) (k_I0 : KX12 I0 M0) : wq (fX12_handed N I0 L0 M0 x1 x2 x3) (fun r => KX12 r.2.1 r.2.2.2 ∧ True) := by
  unfold fX12_handed
  refine wq_v (fun I0_1_q56033 h_I0_1_q56033 => ?_)
  have k_I0_1_q56033 : KX12 I0_1_q56033 M0 := by rw [h_I0_1_q56033]; exact KX12.si0 k_I0
  have b_56034 := i32b x1
  refine wq_b (tt_fX12_isBook hN I0_1_q56033 L0 M0 x1 k_I0_1_q56033) (fun r2_q56035 h_r2_q56035 => ?_)
  obtain ⟨h_r2_q56035_0, h_r2_q56035_1, h_r2_q56035_2, h_r2_q56035_3, -⟩ := h_r2_q56035
  have t_56036 := KX12.i1 h_r2_q56035_3
  have t_56037 := KX12.i1 k_I0
  have t_56038 : (I0_1_q56033 1).toInt = (I0 1).toInt := by rw [h_I0_1_q56033]; rfl
  have l_0 := il_0
  refine wq_eq (fun hc_56039 => ?_) (fun hc_56040 => ?_)
  · exact wq_s ⟨h_r2_q56035_3, trivial⟩
  · have b_56041 := i32b x2
    refine wq_b (tt_fX12_isBook hN r2_q56035.2.1 r2_q56035.2.2.1 r2_q56035.2.2.2 x2 h_r2_q56035_3) (fun r3_q56042 h_r3_q56042 => ?_)
    obtain ⟨h_r3_q56042_0, h_r3_q56042_1, h_r3_q56042_2, h_r3_q56042_3, -⟩ := h_r3_q56042
    have t_56043 := KX12.i1 h_r3_q56042_3
    refine wq_eq (fun hc_56044 => ?_) (fun hc_56045 => ?_)
    · exact wq_s ⟨h_r3_q56042_3, trivial⟩
    · have b_56046 := i32b x3
      refine wq_b (tt_fX12_isBook hN r3_q56042.2.1 r3_q56042.2.2.1 r3_q56042.2.2.2 x3 h_r3_q56042_3) (fun r4_q56047 h_r4_q56047 => ?_)
      obtain ⟨h_r4_q56047_0, h_r4_q56047_1, h_r4_q56047_2, h_r4_q56047_3, -⟩ := h_r4_q56047
      have t_56048 := KX12.i1 h_r4_q56047_3
      refine wq_eq (fun hc_56049 => ?_) (fun hc_56050 => ?_)
      · exact wq_s ⟨h_r4_q56047_3, trivial⟩
      · exact tt_fX12_handed_L37 hN x1 x2 x3 ⟨by omega, by omega⟩ ⟨by omega, by omega⟩ ⟨by omega, by omega⟩ N r4_q56047.2.1 r4_q56047.2.2.1 r4_q56047.2.2.2 (0 : Int32) (0 : Int32) ⟨by omega, by omega⟩ h_r4_q56047_3 (by omega)
set_option maxHeartbeats 4000000 in
theorem tt_fX12_leafAt_L2 {N : Nat} (hN : 3000000000 ≤ N) (I0 : Nat → Int32) (L0 : Int64) (M0 : Nat → Nat → Int32) (x1 : Int32) (x2 : Int32) (h_x1 : 0 ≤ x1.toInt ∧ x1.toInt ≤ 5) (k_I0 : KX12 I0 M0)  : ∀ (fu : Nat) (y2_3 : Int32), (0 ≤ y2_3.toInt ∧ y2_3.toInt ≤ 20) → (20 - y2_3.toInt) < (fu : Int) → wq (fX12_leafAt_L2 N I0 L0 M0 x1 x2 fu y2_3) (fun r => (-1 ≤ r.toInt ∧ r.toInt ≤ 19) ∧ True) := by
  intro fu
  induction fu with
  | zero => intro y2_3 h_y2_3 hm; exfalso; omega
  | succ fu ih =>
    intro y2_3 h_y2_3 hm
    rw [fX12_leafAt_L2.eq_2]
    refine wq_in (n := 6) ⟨by omega, by omega⟩ ?_
    have t_56183 := KX12.m27 k_I0 x1.toNatClampNeg
    refine wq_le (fun hc_56184 => ?_) (fun hc_56185 => ?_)
    · have l_m1 := il_m1
      exact wq_s ⟨(show -1 ≤ (-1 : Int32).toInt ∧ (-1 : Int32).toInt ≤ 19 from ⟨by omega, by omega⟩), trivial⟩
    · have l_20 := il_20
      have t_56186 := ia_mul (20 : Int32) (20) il_20 x1 (by omega) (by omega)
      have t_56187 := ia_add ((20 : Int32) * x1) y2_3 (by omega) (by omega)
      refine wq_in (n := 120) ⟨by omega, by omega⟩ ?_
      have b_56188 := i32b x2
      refine wq_eq (fun hc_56189 => ?_) (fun hc_56190 => ?_)
      · exact wq_s ⟨(show -1 ≤ y2_3.toInt ∧ y2_3.toInt ≤ 19 from ⟨by omega, by omega⟩), trivial⟩
      · have l_1 := il_1
        have t_56192 := ia_add y2_3 (1 : Int32) (by omega) (by omega)
        refine wq_v (fun v1_q56191 h_v1_q56191 => ?_)
        have t_v1_q56191 := congrArg Int32.toInt h_v1_q56191
        exact ih v1_q56191 ⟨by omega, by omega⟩ (by omega)
set_option maxHeartbeats 4000000 in
theorem tt_fX12_leafAt {N : Nat} (hN : 3000000000 ≤ N) (I0 : Nat → Int32) (L0 : Int64) (M0 : Nat → Nat → Int32) (x1 : Int32) (x2 : Int32) (h_x1 : 0 ≤ x1.toInt ∧ x1.toInt ≤ 5) (k_I0 : KX12 I0 M0) : wq (fX12_leafAt N I0 L0 M0 x1 x2) (fun r => (-1 ≤ r.toInt ∧ r.toInt ≤ 19) ∧ True) := by
  unfold fX12_leafAt
  have b_56193 := i32b x2
  have l_0 := il_0
  exact tt_fX12_leafAt_L2 hN I0 L0 M0 x1 x2 ⟨by omega, by omega⟩ k_I0 N (0 : Int32) ⟨by omega, by omega⟩ (by omega)
theorem ph_all : ∀ (n : Nat) (f : Nat → Nat), (∀ i : Nat, i ≤ n → f i < n) → ∃ i j : Nat, i < j ∧ j ≤ n ∧ f i = f j := by
  intro n
  induction n with
  | zero => intro f h; exact absurd (h 0 (Nat.le_refl 0)) (by omega)
  | succ n ih =>
    intro f h
    by_cases q : ∃ i : Nat, i ≤ n ∧ f i = f (n + 1)
    · obtain ⟨i, hi, e⟩ := q
      exact ⟨i, n + 1, by omega, Nat.le_refl _, e⟩
    · have q2 : ∀ i : Nat, i ≤ n → f i ≠ f (n + 1) := fun i hi e => q ⟨i, hi, e⟩
      obtain ⟨i, j, h1, h2, h3⟩ := ih (fun i => if f i = n then f (n + 1) else f i) (fun i hi => by
        have a := h i (by omega)
        have b := h (n + 1) (Nat.le_refl _)
        have c := q2 i hi
        show (if f i = n then f (n + 1) else f i) < n
        by_cases z : f i = n
        · rw [if_pos z]; omega
        · rw [if_neg z]; omega)
      refine ⟨i, j, h1, by omega, ?_⟩
      have c1 := q2 i (by omega)
      have c2 := q2 j h2
      have h3 : (if f i = n then f (n + 1) else f i) = (if f j = n then f (n + 1) else f j) := h3
      by_cases z1 : f i = n
      · by_cases z2 : f j = n
        · omega
        · rw [if_pos z1, if_neg z2] at h3; omega
      · by_cases z2 : f j = n
        · rw [if_neg z1, if_pos z2] at h3; omega
        · rw [if_neg z1, if_neg z2] at h3; exact h3
theorem lv_room9 {m f : Nat → Int32} (h : LV m f) {b : Nat} {w : Int32} (hb : b < 6) (hw : 0 ≤ w.toInt ∧ w.toInt ≤ 19) (hn : ∀ i : Nat, (i : Int) < (m b).toInt → f (20 * b + i) ≠ w) : (m b).toInt ≤ 19 := by
  rcases Int.lt_or_le 19 (m b).toInt with q | q
  · exfalso
    obtain ⟨i, j, h1, h2, h3⟩ := ph_all 20 (fun i => if i < 20 then (f (20 * b + i)).toInt.toNat else w.toInt.toNat) (fun i hi => by
      show (if i < 20 then (f (20 * b + i)).toInt.toNat else w.toInt.toNat) < 20
      have a := h.1 (20 * b + i)
      by_cases z : i < 20
      · rw [if_pos z]; omega
      · rw [if_neg z]; omega)
    have i20 : i < 20 := by omega
    have h3 : (if i < 20 then (f (20 * b + i)).toInt.toNat else w.toInt.toNat) = (if j < 20 then (f (20 * b + j)).toInt.toNat else w.toInt.toNat) := h3
    rw [if_pos i20] at h3
    have a := h.1 (20 * b + i)
    have a2 := h.1 (20 * b + j)
    by_cases z : j < 20
    · rw [if_pos z] at h3
      exact h.2 b i j hb h1 (by omega) (Int32.toInt_inj.mp (by omega))
    · rw [if_neg z] at h3
      exact hn i (by omega) (Int32.toInt_inj.mp (by omega))
  · exact q
theorem LV.add {m f : Nat → Int32} (h : LV m f) {b : Nat} {w : Int32} (hm : ∀ b : Nat, 0 ≤ (m b).toInt ∧ (m b).toInt ≤ 20) (hc : (m b).toInt ≤ 19) (hw : 0 ≤ w.toInt ∧ w.toInt ≤ 19) (hn : ∀ i : Nat, (i : Int) < (m b).toInt → f (20 * b + i) ≠ w) {v : Int32} (hv : v.toInt = (m b).toInt + 1) {j : Nat} (hj : (j : Int) = 20 * b + (m b).toInt) : LV (upd m b v) (upd f j w) := by
  refine ⟨ar_upd h.1 hw, fun b2 i j2 hb2 hij hj2 => ?_⟩
  have m2 := hm b2
  have mb := hm b
  by_cases q : b2 = b
  · subst q
    have e : upd m b2 v b2 = v := if_pos rfl
    rw [e, hv] at hj2
    have n1 : ¬ (20 * b2 + i = j) := by omega
    have e1 : upd f j w (20 * b2 + i) = f (20 * b2 + i) := if_neg n1
    rw [e1]
    by_cases z : 20 * b2 + j2 = j
    · have e2 : upd f j w (20 * b2 + j2) = w := if_pos z
      rw [e2]
      exact hn i (by omega)
    · have e2 : upd f j w (20 * b2 + j2) = f (20 * b2 + j2) := if_neg z
      rw [e2]
      exact h.2 b2 i j2 hb2 hij (by omega)
  · have e : upd m b v b2 = m b2 := if_neg q
    rw [e] at hj2
    have n1 : ¬ (20 * b2 + i = j) := by omega
    have n2 : ¬ (20 * b2 + j2 = j) := by omega
    have e1 : upd f j w (20 * b2 + i) = f (20 * b2 + i) := if_neg n1
    have e2 : upd f j w (20 * b2 + j2) = f (20 * b2 + j2) := if_neg n2
    rw [e1, e2]
    exact h.2 b2 i j2 hb2 hij hj2
theorem KX12.leafy {I : Nat → Int32} {M : Nat → Nat → Int32} (k : KX12 I M) {b j : Nat} {v w : Int32} (hv : 0 ≤ v.toInt ∧ v.toInt ≤ 20) (hl : LV (upd (M 27) b v) (upd (M 28) j w)) : KX12 I (wb_um (wb_um M 28 j w) 27 b v) := ⟨k.i1, k.i2, k.i3, k.i6, k.i7, k.i12, k.i13, k.i14, k.i16, k.i17, k.i18, k.i19, k.m3, k.m7, k.m12, k.m16, k.m23, k.m24, ar_upd k.m27 hv, k.m35, k.m36, k.er1, k.er2, k.een, k.edn, hl, k.ese, k.esi, trivial⟩
theorem tu_leafAt_L2 {N : Nat} (I : Nat → Int32) (L : Int64) (M : Nat → Nat → Int32) (x1 x2 : Int32) (h1 : 0 ≤ x1.toInt ∧ x1.toInt ≤ 5) (k : KX12 I M) : ∀ (fu : Nat) (y : Int32), (0 ≤ y.toInt ∧ y.toInt ≤ 20) → (∀ i : Nat, (i : Int) < y.toInt → M 28 (20 * x1.toNatClampNeg + i) ≠ x2) → 20 - y.toInt < (fu : Int) → wq (fX12_leafAt_L2 N I L M x1 x2 fu y) (fun r => r.toInt = -1 → ∀ i : Nat, (i : Int) < (M 27 x1.toNatClampNeg).toInt → M 28 (20 * x1.toNatClampNeg + i) ≠ x2) := by
  intro fu
  induction fu with
  | zero => intro y hy _ hm; exfalso; omega
  | succ fu ih =>
    intro y hy hq hm
    rw [fX12_leafAt_L2.eq_2]
    have l_20 := il_20
    have l_1 := il_1
    have c := tn_of x1 (by omega)
    have m27 := k.m27 x1.toNatClampNeg
    refine wq_in (n := 6) ⟨by omega, by omega⟩ ?_
    refine wq_le (fun hc => wq_s (fun _ i hi => hq i (by omega))) (fun hc => ?_)
    have t1 := ia_mul (20 : Int32) 20 il_20 x1 (by omega) (by omega)
    have t2 := ia_add ((20 : Int32) * x1) y (by omega) (by omega)
    have c2 := tn_of ((20 : Int32) * x1 + y) (by omega)
    refine wq_in (n := 120) ⟨by omega, by omega⟩ ?_
    refine wq_i (fun hc2 => wq_s (fun e => by omega)) (fun hc2 => ?_)
    have t5 := ia_add y (1 : Int32) (by omega) (by omega)
    refine wq_v (fun v e => ?_)
    have t6 := congrArg Int32.toInt e
    refine ih v ⟨by omega, by omega⟩ (fun i hi => ?_) (by omega)
    by_cases z : (i : Int) < y.toInt
    · exact hq i z
    · have e9 : 20 * x1.toNatClampNeg + i = ((20 : Int32) * x1 + y).toNatClampNeg := by omega
      rw [e9]; exact hc2
theorem tt_fX12_leaf {N : Nat} (hN : 3000000000 ≤ N) (I0 : Nat → Int32) (L0 : Int64) (M0 : Nat → Nat → Int32) (x1 : Int32) (x2 : Int32) (k_I0 : KX12 I0 M0) : wq (fX12_leaf N I0 L0 M0 x1 x2) (fun r => KX12 r.2.1 r.2.2.2 ∧ True) := by
  unfold fX12_leaf
  refine wq_b (tt_fX12_isWheel hN I0 L0 M0 x1 x2 k_I0) (fun r hr => ?_)
  have l_0 := il_0
  have l_20 := il_20
  have l_1 := il_1
  obtain ⟨hr0, -, -, k, -⟩ := hr
  refine wq_eq (fun hc => wq_s ⟨k, trivial⟩) (fun hc => ?_)
  have h1 : 0 ≤ x1.toInt ∧ x1.toInt ≤ 5 := ⟨by omega, by omega⟩
  have h2 : 0 ≤ x2.toInt ∧ x2.toInt ≤ 19 := ⟨by omega, by omega⟩
  have hla : wq (fX12_leafAt N r.2.1 r.2.2.1 r.2.2.2 x1 x2) _ := by
    unfold fX12_leafAt
    exact tu_leafAt_L2 r.2.1 r.2.2.1 r.2.2.2 x1 x2 h1 k N (0 : Int32) ⟨by omega, by omega⟩ (fun i hi => by exfalso; omega) (by omega)
  refine wq_b hla (fun r2 h3 => ?_)
  refine wq_i (fun hc2 => ?_) (fun hc2 => wq_s ⟨k, trivial⟩)
  have e2 : r2.toInt = -1 := by rw [hc2]; decide
  have h4 := h3 e2
  have c := tn_of x1 (by omega)
  have m27 := k.m27 x1.toNatClampNeg
  have h19 := lv_room9 k.elv (b := x1.toNatClampNeg) (by omega) h2 h4
  have t1 := ia_mul (20 : Int32) 20 il_20 x1 (by omega) (by omega)
  have t2 := ia_add ((20 : Int32) * x1) (r.2.2.2 27 x1.toNatClampNeg) (by omega) (by omega)
  have t3 := ia_add (r.2.2.2 27 x1.toNatClampNeg) (1 : Int32) (by omega) (by omega)
  have c2 := tn_of ((20 : Int32) * x1 + r.2.2.2 27 x1.toNatClampNeg) (by omega)
  refine wq_in (n := 6) ⟨by omega, by omega⟩ ?_
  refine wq_in (n := 120) ⟨by omega, by omega⟩ ?_
  refine wq_v (fun M3 e3 => ?_)
  refine wq_in (n := 6) ⟨by omega, by omega⟩ ?_
  refine wq_in (n := 6) ⟨by omega, by omega⟩ ?_
  have e27 : M3 27 = r.2.2.2 27 := by rw [e3]; rfl
  refine wq_v (fun M4 e4 => ?_)
  refine wq_in (n := 6) ⟨by omega, by omega⟩ ?_
  refine wq_s ⟨?_, trivial⟩
  show KX12 r.2.1 M4
  rw [e4, e27, e3]
  exact KX12.leafy k ⟨by omega, by omega⟩ (LV.add k.elv k.m27 h19 h2 h4 (by omega) (by omega))
set_option maxHeartbeats 4000000 in
theorem tt_fX12_order_L135 {N : Nat} (hN : 3000000000 ≤ N) (x1 : Int32) (x2 : Int32) (x3 : Int32) (y117_5 : Int32) (y117_7 : Int32) (y51_4 : Int32) (g51 : (Nat → Int32) → Int64 → (Nat → Nat → Int32) → Int32 → Int32 → Option (Int32 × (Nat → Int32) × Int64 × (Nat → Nat → Int32))) (g117 : (Nat → Int32) → Int64 → (Nat → Nat → Int32) → Int32 → Int32 → Int32 → Option (Int32 × (Nat → Int32) × Int64 × (Nat → Nat → Int32))) (h_x1 : 0 ≤ x1.toInt ∧ x1.toInt ≤ 5) (h_x2 : 0 ≤ x2.toInt ∧ x2.toInt ≤ 5) (h_y117_5 : 0 ≤ y117_5.toInt ∧ y117_5.toInt ≤ 2147483647) (h_y117_7 : 0 ≤ y117_7.toInt ∧ y117_7.toInt ≤ 19) (h_y51_4 : 1 ≤ y51_4.toInt ∧ y51_4.toInt ≤ 20) (hg117 : ∀ (q0 : (Nat → Int32)) (q1 : Int64) (q2 : (Nat → Nat → Int32)) (q3 : Int32) (q4 : Int32) (q5 : Int32), (0 ≤ q3.toInt ∧ q3.toInt ≤ 2147483647) → (0 ≤ q5.toInt ∧ q5.toInt ≤ 20) → (KX12 q0 q2) → (y117_7.toInt < q5.toInt) → wq (g117 q0 q1 q2 q3 q4 q5) (fun r => KX12 r.2.1 r.2.2.2 ∧ True)) : ∀ (fu : Nat) (I0_l135 : (Nat → Int32)) (L0_l135 : Int64) (M0_l135 : (Nat → Nat → Int32)) (y135_6 : Int32) (y135_8 : Int32), (0 ≤ y135_8.toInt ∧ y135_8.toInt ≤ 19) → (KX12 I0_l135 M0_l135) → (19 - y135_8.toInt) < (fu : Int) → wq (fX12_order_L135 N x1 x2 x3 y117_5 y117_7 y51_4 g51 g117 fu I0_l135 L0_l135 M0_l135 y135_6 y135_8) (fun r => KX12 r.2.1 r.2.2.2 ∧ True) := by
  intro fu
  induction fu with
  | zero => intro I0_l135 L0_l135 M0_l135 y135_6 y135_8 h_y135_8 k_I0_l135 hm; exfalso; omega
  | succ fu ih =>
    intro I0_l135 L0_l135 M0_l135 y135_6 y135_8 h_y135_8 k_I0_l135 hm
    rw [fX12_order_L135.eq_2]
    refine wq_le (fun hc_57575 => ?_) (fun hc_57576 => ?_)
    · refine wq_in (n := 20) ⟨by omega, by omega⟩ ?_
      have b_57577 := i32b y117_5
      refine wq_le (fun hc_57578 => ?_) (fun hc_57579 => ?_)
      · have l_1 := il_1
        have t_57581 := ia_add y117_7 (1 : Int32) (by omega) (by omega)
        refine wq_v (fun v3_q57580 h_v3_q57580 => ?_)
        have t_v3_q57580 := congrArg Int32.toInt h_v3_q57580
        have b_57582 := i32b y135_6
        exact hg117 I0_l135 L0_l135 M0_l135 y117_5 y135_6 v3_q57580 ⟨by omega, by omega⟩ ⟨by omega, by omega⟩ k_I0_l135 (by omega)
      · refine wq_in (n := 20) ⟨by omega, by omega⟩ ?_
        refine wq_v (fun v4_q57583 h_v4_q57583 => ?_)
        have t_v4_q57583 := congrArg Int32.toInt h_v4_q57583
        have l_1 := il_1
        have t_57585 := ia_add y117_7 (1 : Int32) (by omega) (by omega)
        refine wq_v (fun v5_q57584 h_v5_q57584 => ?_)
        have t_v5_q57584 := congrArg Int32.toInt h_v5_q57584
        have b_57586 := i32b v4_q57583
        have b_57587 := i32b y135_6
        exact hg117 I0_l135 L0_l135 M0_l135 v4_q57583 y135_6 v5_q57584 ⟨by omega, by omega⟩ ⟨by omega, by omega⟩ k_I0_l135 (by omega)
    · refine wq_in (n := 20) ⟨by omega, by omega⟩ ?_
      refine wq_in (n := 20) ⟨by omega, by omega⟩ ?_
      refine wq_le (fun hc_57588 => ?_) (fun hc_57589 => ?_)
      · refine wq_in (n := 20) ⟨by omega, by omega⟩ ?_
        refine wq_in (n := 20) ⟨by omega, by omega⟩ ?_
        have l_1 := il_1
        refine wq_le (fun hc_57590 => ?_) (fun hc_57591 => ?_)
        · have t_57593 := ia_add y135_8 (1 : Int32) (by omega) (by omega)
          refine wq_v (fun v6_q57592 h_v6_q57592 => ?_)
          have t_v6_q57592 := congrArg Int32.toInt h_v6_q57592
          have b_57594 := i32b y135_6
          exact ih I0_l135 L0_l135 M0_l135 y135_6 v6_q57592 ⟨by omega, by omega⟩ k_I0_l135 (by omega)
        · refine wq_in (n := 20) ⟨by omega, by omega⟩ ?_
          refine wq_in (n := 20) ⟨by omega, by omega⟩ ?_
          refine wq_v (fun M0_7_q57595 h_M0_7_q57595 => ?_)
          have k_M0_7_q57595 : KX12 I0_l135 M0_7_q57595 := by rw [h_M0_7_q57595]; exact KX12.sm30 k_I0_l135
          have t_57597 := ia_add y135_8 (1 : Int32) (by omega) (by omega)
          refine wq_v (fun v8_q57596 h_v8_q57596 => ?_)
          have t_v8_q57596 := congrArg Int32.toInt h_v8_q57596
          have b_57598 := i32b y135_6
          exact ih I0_l135 L0_l135 M0_7_q57595 y135_6 v8_q57596 ⟨by omega, by omega⟩ k_M0_7_q57595 (by omega)
      · have b_57600 := i32b y135_6
        have l_1 := il_1
        refine wq_v (fun v9_q57599 h_v9_q57599 => ?_)
        have t_v9_q57599 := congrArg Int32.toInt h_v9_q57599
        have t_57602 := ia_add y135_8 (1 : Int32) (by omega) (by omega)
        refine wq_v (fun v10_q57601 h_v10_q57601 => ?_)
        have t_v10_q57601 := congrArg Int32.toInt h_v10_q57601
        have b_57603 := i32b v9_q57599
        exact ih I0_l135 L0_l135 M0_l135 v9_q57599 v10_q57601 ⟨by omega, by omega⟩ k_I0_l135 (by omega)
set_option maxHeartbeats 4000000 in
theorem tt_fX12_order_L117 {N : Nat} (hN : 3000000000 ≤ N) (x1 : Int32) (x2 : Int32) (x3 : Int32) (y51_4 : Int32) (g51 : (Nat → Int32) → Int64 → (Nat → Nat → Int32) → Int32 → Int32 → Option (Int32 × (Nat → Int32) × Int64 × (Nat → Nat → Int32))) (h_x1 : 0 ≤ x1.toInt ∧ x1.toInt ≤ 5) (h_x2 : 0 ≤ x2.toInt ∧ x2.toInt ≤ 5) (h_y51_4 : 0 ≤ y51_4.toInt ∧ y51_4.toInt ≤ 20)  : ∀ (fu : Nat) (I0_l117 : (Nat → Int32)) (L0_l117 : Int64) (M0_l117 : (Nat → Nat → Int32)) (y117_5 : Int32) (y117_6 : Int32) (y117_7 : Int32), (0 ≤ y117_5.toInt ∧ y117_5.toInt ≤ 2147483647) → (0 ≤ y117_7.toInt ∧ y117_7.toInt ≤ 20) → (KX12 I0_l117 M0_l117) → (20 - y117_7.toInt) < (fu : Int) → wq (fX12_order_L117 N x1 x2 x3 y51_4 g51 fu I0_l117 L0_l117 M0_l117 y117_5 y117_6 y117_7) (fun r => KX12 r.2.1 r.2.2.2 ∧ True) := by
  intro fu
  induction fu with
  | zero => intro I0_l117 L0_l117 M0_l117 y117_5 y117_6 y117_7 h_y117_5 h_y117_7 k_I0_l117 hm; exfalso; omega
  | succ fu ih =>
    intro I0_l117 L0_l117 M0_l117 y117_5 y117_6 y117_7 h_y117_5 h_y117_7 k_I0_l117 hm
    rw [fX12_order_L117.eq_2]
    refine wq_le (fun hc_57604 => ?_) (fun hc_57605 => ?_)
    · have b_57606 := i32b x3
      have l_0 := il_0
      refine wq_eq (fun hc_57607 => ?_) (fun hc_57608 => ?_)
      · have b_57609 := i32b y117_5
        exact wq_s ⟨k_I0_l117, trivial⟩
      · have b_57610 := i32b y117_6
        exact wq_s ⟨k_I0_l117, trivial⟩
    · refine wq_in (n := 20) ⟨by omega, by omega⟩ ?_
      refine wq_v (fun M0_2_q57611 h_M0_2_q57611 => ?_)
      have k_M0_2_q57611 : KX12 I0_l117 M0_2_q57611 := by rw [h_M0_2_q57611]; exact KX12.sm30 k_I0_l117
      have b_57612 := i32b x3
      have b_57613 := i32b y117_5
      have b_57614 := i32b y117_6
      have l_0 := il_0
      exact tt_fX12_order_L135 hN x1 x2 x3 y117_5 y117_7 y51_4 g51 _ ⟨by omega, by omega⟩ ⟨by omega, by omega⟩ ⟨by omega, by omega⟩ ⟨by omega, by omega⟩ ⟨by omega, by omega⟩ (fun q0 q1 q2 q3 q4 q5 hq0 hq1 hq2 hq3 => ih q0 q1 q2 q3 q4 q5 hq0 hq1 hq2 (by omega)) N I0_l117 L0_l117 M0_2_q57611 y117_6 (0 : Int32) ⟨by omega, by omega⟩ k_M0_2_q57611 (by omega)
set_option maxHeartbeats 4000000 in
theorem tt_fX12_order_L51 {N : Nat} (hN : 3000000000 ≤ N) (x1 : Int32) (x2 : Int32) (x3 : Int32) (h_x1 : 0 ≤ x1.toInt ∧ x1.toInt ≤ 5) (h_x2 : 0 ≤ x2.toInt ∧ x2.toInt ≤ 5)  : ∀ (fu : Nat) (I0_l51 : (Nat → Int32)) (L0_l51 : Int64) (M0_l51 : (Nat → Nat → Int32)) (y51_4 : Int32) (y51_5 : Int32), (0 ≤ y51_4.toInt ∧ y51_4.toInt ≤ 20) → (0 ≤ y51_5.toInt ∧ y51_5.toInt ≤ 20) → (KX12 I0_l51 M0_l51) → (y51_4.toInt ≤ y51_5.toInt) → (20 - y51_5.toInt) < (fu : Int) → wq (fX12_order_L51 N x1 x2 x3 fu I0_l51 L0_l51 M0_l51 y51_4 y51_5) (fun r => KX12 r.2.1 r.2.2.2 ∧ True) := by
  intro fu
  induction fu with
  | zero => intro I0_l51 L0_l51 M0_l51 y51_4 y51_5 h_y51_4 h_y51_5 k_I0_l51 hl_3 hm; exfalso; omega
  | succ fu ih =>
    intro I0_l51 L0_l51 M0_l51 y51_4 y51_5 h_y51_4 h_y51_5 k_I0_l51 hl_3 hm
    rw [fX12_order_L51.eq_2]
    refine wq_in (n := 6) ⟨by omega, by omega⟩ ?_
    have t_57615 := KX12.m27 k_I0_l51 x1.toNatClampNeg
    refine wq_le (fun hc_57616 => ?_) (fun hc_57617 => ?_)
    · have b_57618 := i32b x3
      have l_0 := il_0
      exact tt_fX12_order_L117 hN x1 x2 x3 y51_4 _ ⟨by omega, by omega⟩ ⟨by omega, by omega⟩ ⟨by omega, by omega⟩ N I0_l51 L0_l51 M0_l51 (0 : Int32) (0 : Int32) (0 : Int32) ⟨by omega, by omega⟩ ⟨by omega, by omega⟩ k_I0_l51 (by omega)
    · have l_20 := il_20
      have t_57619 := ia_mul (20 : Int32) (20) il_20 x1 (by omega) (by omega)
      have t_57620 := ia_add ((20 : Int32) * x1) y51_5 (by omega) (by omega)
      refine wq_in (n := 120) ⟨by omega, by omega⟩ ?_
      refine wq_b (tt_fX12_leafAt hN I0_l51 L0_l51 M0_l51 x2 (M0_l51 28 (((20 : Int32) * x1) + y51_5).toNatClampNeg) ⟨by omega, by omega⟩ k_I0_l51) (fun r11_q57621 h_r11_q57621 => ?_)
      obtain ⟨h_r11_q57621_0, -⟩ := h_r11_q57621
      have l_m1 := il_m1
      refine wq_eq (fun hc_57622 => ?_) (fun hc_57623 => ?_)
      · have l_1 := il_1
        have t_57625 := ia_add y51_5 (1 : Int32) (by omega) (by omega)
        refine wq_v (fun v15_q57624 h_v15_q57624 => ?_)
        have t_v15_q57624 := congrArg Int32.toInt h_v15_q57624
        exact ih I0_l51 L0_l51 M0_l51 y51_4 v15_q57624 ⟨by omega, by omega⟩ ⟨by omega, by omega⟩ k_I0_l51 (by omega) (by omega)
      · refine wq_in (n := 20) ⟨by omega, by omega⟩ ?_
        refine wq_v (fun M0_12_q57626 h_M0_12_q57626 => ?_)
        have k_M0_12_q57626 : KX12 I0_l51 M0_12_q57626 := by rw [h_M0_12_q57626]; exact KX12.sm29 k_I0_l51
        have l_1 := il_1
        have t_57628 := ia_add y51_4 (1 : Int32) (by omega) (by omega)
        refine wq_v (fun v13_q57627 h_v13_q57627 => ?_)
        have t_v13_q57627 := congrArg Int32.toInt h_v13_q57627
        have t_57630 := ia_add y51_5 (1 : Int32) (by omega) (by omega)
        refine wq_v (fun v14_q57629 h_v14_q57629 => ?_)
        have t_v14_q57629 := congrArg Int32.toInt h_v14_q57629
        exact ih I0_l51 L0_l51 M0_12_q57626 v13_q57627 v14_q57629 ⟨by omega, by omega⟩ ⟨by omega, by omega⟩ k_M0_12_q57626 (by omega) (by omega)
set_option maxHeartbeats 4000000 in
theorem tt_fX12_order {N : Nat} (hN : 3000000000 ≤ N) (I0 : Nat → Int32) (L0 : Int64) (M0 : Nat → Nat → Int32) (x1 : Int32) (x2 : Int32) (x3 : Int32) (k_I0 : KX12 I0 M0) : wq (fX12_order N I0 L0 M0 x1 x2 x3) (fun r => KX12 r.2.1 r.2.2.2 ∧ True) := by
  unfold fX12_order
  refine wq_v (fun I0_16_q57631 h_I0_16_q57631 => ?_)
  have k_I0_16_q57631 : KX12 I0_16_q57631 M0 := by rw [h_I0_16_q57631]; exact KX12.si0 k_I0
  have b_57632 := i32b x1
  refine wq_b (tt_fX12_isBook hN I0_16_q57631 L0 M0 x1 k_I0_16_q57631) (fun r17_q57633 h_r17_q57633 => ?_)
  obtain ⟨h_r17_q57633_0, h_r17_q57633_1, h_r17_q57633_2, h_r17_q57633_3, -⟩ := h_r17_q57633
  have t_57634 := KX12.i1 h_r17_q57633_3
  have t_57635 := KX12.i1 k_I0
  have t_57636 : (I0_16_q57631 1).toInt = (I0 1).toInt := by rw [h_I0_16_q57631]; rfl
  have l_0 := il_0
  refine wq_eq (fun hc_57637 => ?_) (fun hc_57638 => ?_)
  · exact wq_s ⟨h_r17_q57633_3, trivial⟩
  · have b_57639 := i32b x2
    refine wq_b (tt_fX12_isBook hN r17_q57633.2.1 r17_q57633.2.2.1 r17_q57633.2.2.2 x2 h_r17_q57633_3) (fun r18_q57640 h_r18_q57640 => ?_)
    obtain ⟨h_r18_q57640_0, h_r18_q57640_1, h_r18_q57640_2, h_r18_q57640_3, -⟩ := h_r18_q57640
    have t_57641 := KX12.i1 h_r18_q57640_3
    refine wq_eq (fun hc_57642 => ?_) (fun hc_57643 => ?_)
    · exact wq_s ⟨h_r18_q57640_3, trivial⟩
    · have b_57644 := i32b x3
      refine wq_eq (fun hc_57645 => ?_) (fun hc_57646 => ?_)
      · unfold fX12_order_J31
        unfold fX12_order_J36
        have l_1 := il_1
        refine wq_b (tt_fX12_right hN r18_q57640.2.1 r18_q57640.2.2.1 r18_q57640.2.2.2 (1 : Int32) (1 : Int32) ⟨by omega, by omega⟩ h_r18_q57640_3) (fun r1_q57647 h_r1_q57647 => ?_)
        obtain ⟨h_r1_q57647_0, h_r1_q57647_1, h_r1_q57647_2, h_r1_q57647_3, -⟩ := h_r1_q57647
        have t_57648 := KX12.i1 h_r1_q57647_3
        refine wq_eq (fun hc_57649 => ?_) (fun hc_57650 => ?_)
        · exact wq_s ⟨h_r1_q57647_3, trivial⟩
        · exact tt_fX12_order_L51 hN x1 x2 x3 ⟨by omega, by omega⟩ ⟨by omega, by omega⟩ N r1_q57647.2.1 r1_q57647.2.2.1 r1_q57647.2.2.2 (0 : Int32) (0 : Int32) ⟨by omega, by omega⟩ ⟨by omega, by omega⟩ h_r1_q57647_3 (by omega) (by omega)
      · have l_1 := il_1
        refine wq_eq (fun hc_57651 => ?_) (fun hc_57652 => ?_)
        · unfold fX12_order_J31
          unfold fX12_order_J36
          refine wq_b (tt_fX12_right hN r18_q57640.2.1 r18_q57640.2.2.1 r18_q57640.2.2.2 (1 : Int32) (1 : Int32) ⟨by omega, by omega⟩ h_r18_q57640_3) (fun r1_q57653 h_r1_q57653 => ?_)
          obtain ⟨h_r1_q57653_0, h_r1_q57653_1, h_r1_q57653_2, h_r1_q57653_3, -⟩ := h_r1_q57653
          have t_57654 := KX12.i1 h_r1_q57653_3
          refine wq_eq (fun hc_57655 => ?_) (fun hc_57656 => ?_)
          · exact wq_s ⟨h_r1_q57653_3, trivial⟩
          · exact tt_fX12_order_L51 hN x1 x2 x3 ⟨by omega, by omega⟩ ⟨by omega, by omega⟩ N r1_q57653.2.1 r1_q57653.2.2.1 r1_q57653.2.2.2 (0 : Int32) (0 : Int32) ⟨by omega, by omega⟩ ⟨by omega, by omega⟩ h_r1_q57653_3 (by omega) (by omega)
        · unfold fX12_order_J36
          refine wq_b (tt_fX12_right hN r18_q57640.2.1 r18_q57640.2.2.1 r18_q57640.2.2.2 (0 : Int32) (1 : Int32) ⟨by omega, by omega⟩ h_r18_q57640_3) (fun r1_q57657 h_r1_q57657 => ?_)
          obtain ⟨h_r1_q57657_0, h_r1_q57657_1, h_r1_q57657_2, h_r1_q57657_3, -⟩ := h_r1_q57657
          have t_57658 := KX12.i1 h_r1_q57657_3
          refine wq_eq (fun hc_57659 => ?_) (fun hc_57660 => ?_)
          · exact wq_s ⟨h_r1_q57657_3, trivial⟩
          · exact tt_fX12_order_L51 hN x1 x2 x3 ⟨by omega, by omega⟩ ⟨by omega, by omega⟩ N r1_q57657.2.1 r1_q57657.2.2.1 r1_q57657.2.2.2 (0 : Int32) (0 : Int32) ⟨by omega, by omega⟩ ⟨by omega, by omega⟩ h_r1_q57657_3 (by omega) (by omega)
set_option maxHeartbeats 4000000 in
theorem tt_fX12_areSame_L6 {N : Nat} (hN : 3000000000 ≤ N) (I0 : Nat → Int32) (L0 : Int64) (M0 : Nat → Nat → Int32) (x1 : Int32) (x2 : Int32) (x3 : Int32) (h_x1 : 0 ≤ x1.toInt ∧ x1.toInt ≤ 119) (h_x2 : 0 ≤ x2.toInt ∧ x2.toInt ≤ 119) (k_I0 : KX12 I0 M0)  : ∀ (fu : Nat) (y6_4 : Int32) (y6_5 : Int32), (0 ≤ y6_5.toInt ∧ y6_5.toInt ≤ 7) → (7 - y6_5.toInt) < (fu : Int) → wq (fX12_areSame_L6 N I0 L0 M0 x1 x2 x3 fu y6_4 y6_5) (fun r => (0 ≤ r.toInt ∧ r.toInt ≤ 1) ∧ True) := by
  intro fu
  induction fu with
  | zero => intro y6_4 y6_5 h_y6_5 hm; exfalso; omega
  | succ fu ih =>
    intro y6_4 y6_5 h_y6_5 hm
    rw [fX12_areSame_L6.eq_2]
    have l_7 := il_7
    refine wq_le (fun hc_58126 => ?_) (fun hc_58127 => ?_)
    · have b_58128 := i32b y6_4
      have b_58129 := i32b x3
      refine wq_lt (fun hc_58130 => ?_) (fun hc_58131 => ?_)
      · have l_0 := il_0
        exact wq_s ⟨(show 0 ≤ (0 : Int32).toInt ∧ (0 : Int32).toInt ≤ 1 from ⟨by omega, by omega⟩), trivial⟩
      · have l_1 := il_1
        exact wq_s ⟨(show 0 ≤ (1 : Int32).toInt ∧ (1 : Int32).toInt ≤ 1 from ⟨by omega, by omega⟩), trivial⟩
    · refine wq_b (tt_fX12_at hN I0 L0 M0 x1 y6_5 ⟨by omega, by omega⟩ ⟨by omega, by omega⟩ k_I0) (fun r1_q58132 h_r1_q58132 => ?_)
      obtain ⟨h_r1_q58132_0, h_r1_q58132_1, h_r1_q58132_2, -⟩ := h_r1_q58132
      refine wq_b (tt_fX12_at hN I0 L0 M0 x2 y6_5 ⟨by omega, by omega⟩ ⟨by omega, by omega⟩ k_I0) (fun r2_q58133 h_r2_q58133 => ?_)
      obtain ⟨h_r2_q58133_0, h_r2_q58133_1, h_r2_q58133_2, -⟩ := h_r2_q58133
      have l_m1 := il_m1
      refine wq_eq (fun hc_58134 => ?_) (fun hc_58135 => ?_)
      · have l_1 := il_1
        have t_58137 := ia_add y6_5 (1 : Int32) (by omega) (by omega)
        refine wq_v (fun v3_q58136 h_v3_q58136 => ?_)
        have t_v3_q58136 := congrArg Int32.toInt h_v3_q58136
        have b_58138 := i32b y6_4
        exact ih y6_4 v3_q58136 ⟨by omega, by omega⟩ (by omega)
      · refine wq_eq (fun hc_58139 => ?_) (fun hc_58140 => ?_)
        · have l_1 := il_1
          have t_58142 := ia_add y6_5 (1 : Int32) (by omega) (by omega)
          refine wq_v (fun v10_q58141 h_v10_q58141 => ?_)
          have t_v10_q58141 := congrArg Int32.toInt h_v10_q58141
          have b_58143 := i32b y6_4
          exact ih y6_4 v10_q58141 ⟨by omega, by omega⟩ (by omega)
        · refine wq_b (tt_fX12_costOf hN I0 L0 M0 r1_q58132 r2_q58133 ⟨by omega, by omega⟩ k_I0) (fun r4_q58144 h_r4_q58144 => ?_)
          obtain ⟨h_r4_q58144_0, -⟩ := h_r4_q58144
          have l_1 := il_1
          refine wq_le (fun hc_58145 => ?_) (fun hc_58146 => ?_)
          · have b_58148 := i32b y6_4
            refine wq_v (fun v5_q58147 h_v5_q58147 => ?_)
            have t_v5_q58147 := congrArg Int32.toInt h_v5_q58147
            have t_58150 := ia_add y6_5 (1 : Int32) (by omega) (by omega)
            refine wq_v (fun v6_q58149 h_v6_q58149 => ?_)
            have t_v6_q58149 := congrArg Int32.toInt h_v6_q58149
            have b_58151 := i32b v5_q58147
            exact ih v5_q58147 v6_q58149 ⟨by omega, by omega⟩ (by omega)
          · refine wq_b (tt_fX12_costOf hN I0 L0 M0 r2_q58133 r1_q58132 ⟨by omega, by omega⟩ k_I0) (fun r7_q58152 h_r7_q58152 => ?_)
            obtain ⟨h_r7_q58152_0, -⟩ := h_r7_q58152
            refine wq_le (fun hc_58153 => ?_) (fun hc_58154 => ?_)
            · have b_58156 := i32b y6_4
              refine wq_v (fun v8_q58155 h_v8_q58155 => ?_)
              have t_v8_q58155 := congrArg Int32.toInt h_v8_q58155
              have t_58158 := ia_add y6_5 (1 : Int32) (by omega) (by omega)
              refine wq_v (fun v9_q58157 h_v9_q58157 => ?_)
              have t_v9_q58157 := congrArg Int32.toInt h_v9_q58157
              have b_58159 := i32b v8_q58155
              exact ih v8_q58155 v9_q58157 ⟨by omega, by omega⟩ (by omega)
            · have l_0 := il_0
              exact wq_s ⟨(show 0 ≤ (0 : Int32).toInt ∧ (0 : Int32).toInt ≤ 1 from ⟨by omega, by omega⟩), trivial⟩
set_option maxHeartbeats 4000000 in
theorem tt_fX12_areSame {N : Nat} (hN : 3000000000 ≤ N) (I0 : Nat → Int32) (L0 : Int64) (M0 : Nat → Nat → Int32) (x1 : Int32) (x2 : Int32) (x3 : Int32) (h_x1 : 0 ≤ x1.toInt ∧ x1.toInt ≤ 119) (h_x2 : 0 ≤ x2.toInt ∧ x2.toInt ≤ 119) (k_I0 : KX12 I0 M0) : wq (fX12_areSame N I0 L0 M0 x1 x2 x3) (fun r => (0 ≤ r.toInt ∧ r.toInt ≤ 1) ∧ True) := by
  unfold fX12_areSame
  have b_58160 := i32b x3
  have l_0 := il_0
  exact tt_fX12_areSame_L6 hN I0 L0 M0 x1 x2 x3 ⟨by omega, by omega⟩ ⟨by omega, by omega⟩ k_I0 N (0 : Int32) (0 : Int32) ⟨by omega, by omega⟩ (by omega)
set_option maxHeartbeats 4000000 in
theorem tt_fX12_isNumber {N : Nat} (hN : 3000000000 ≤ N) (I0 : Nat → Int32) (L0 : Int64) (M0 : Nat → Nat → Int32) (x1 : Int32) (k_I0 : KX12 I0 M0) : wq (fX12_isNumber N I0 L0 M0 x1) (fun r => (r.1.toInt = 0 ∨ (r.1.toInt = 1 ∧ 0 ≤ x1.toInt ∧ x1.toInt ≤ 119)) ∧ (r.2.1 1).toInt = (I0 1).toInt ∧ (0 ≤ r.1.toInt ∧ r.1.toInt ≤ 1) ∧ KX12 r.2.1 r.2.2.2 ∧ True) := by
  unfold fX12_isNumber
  have b_58245 := i32b x1
  have l_0 := il_0
  refine wq_lt (fun hc_58246 => ?_) (fun hc_58247 => ?_)
  · have l_1 := il_1
    refine wq_b (tt_fX12_right hN I0 L0 M0 (0 : Int32) (1 : Int32) ⟨by omega, by omega⟩ k_I0) (fun r1_q58248 h_r1_q58248 => ?_)
    obtain ⟨h_r1_q58248_0, h_r1_q58248_1, h_r1_q58248_2, h_r1_q58248_3, -⟩ := h_r1_q58248
    have t_58249 := KX12.i1 h_r1_q58248_3
    have t_58250 := KX12.i1 k_I0
    refine wq_bz (by omega) ?_
    exact wq_s ⟨(show (r1_q58248.1.toInt = 0 ∨ (r1_q58248.1.toInt = 1 ∧ 0 ≤ x1.toInt ∧ x1.toInt ≤ 119)) from by omega), (show (r1_q58248.2.1 1).toInt = (I0 1).toInt from by omega), (show 0 ≤ r1_q58248.1.toInt ∧ r1_q58248.1.toInt ≤ 1 from ⟨by omega, by omega⟩), h_r1_q58248_3, trivial⟩
  · have l_120 := il_120
    refine wq_le (fun hc_58251 => ?_) (fun hc_58252 => ?_)
    · have l_1 := il_1
      refine wq_b (tt_fX12_right hN I0 L0 M0 (0 : Int32) (1 : Int32) ⟨by omega, by omega⟩ k_I0) (fun r2_q58253 h_r2_q58253 => ?_)
      obtain ⟨h_r2_q58253_0, h_r2_q58253_1, h_r2_q58253_2, h_r2_q58253_3, -⟩ := h_r2_q58253
      have t_58254 := KX12.i1 h_r2_q58253_3
      have t_58255 := KX12.i1 k_I0
      refine wq_bz (by omega) ?_
      exact wq_s ⟨(show (r2_q58253.1.toInt = 0 ∨ (r2_q58253.1.toInt = 1 ∧ 0 ≤ x1.toInt ∧ x1.toInt ≤ 119)) from by omega), (show (r2_q58253.2.1 1).toInt = (I0 1).toInt from by omega), (show 0 ≤ r2_q58253.1.toInt ∧ r2_q58253.1.toInt ≤ 1 from ⟨by omega, by omega⟩), h_r2_q58253_3, trivial⟩
    · have l_1 := il_1
      refine wq_b (tt_fX12_right hN I0 L0 M0 (1 : Int32) (1 : Int32) ⟨by omega, by omega⟩ k_I0) (fun r3_q58256 h_r3_q58256 => ?_)
      obtain ⟨h_r3_q58256_0, h_r3_q58256_1, h_r3_q58256_2, h_r3_q58256_3, -⟩ := h_r3_q58256
      have t_58257 := KX12.i1 h_r3_q58256_3
      have t_58258 := KX12.i1 k_I0
      refine wq_bz (by omega) ?_
      exact wq_s ⟨(show (r3_q58256.1.toInt = 0 ∨ (r3_q58256.1.toInt = 1 ∧ 0 ≤ x1.toInt ∧ x1.toInt ≤ 119)) from by omega), (show (r3_q58256.2.1 1).toInt = (I0 1).toInt from by omega), (show 0 ≤ r3_q58256.1.toInt ∧ r3_q58256.1.toInt ≤ 1 from ⟨by omega, by omega⟩), h_r3_q58256_3, trivial⟩
set_option maxHeartbeats 4000000 in
theorem tt_fX12_same {N : Nat} (hN : 3000000000 ≤ N) (I0 : Nat → Int32) (L0 : Int64) (M0 : Nat → Nat → Int32) (x1 : Int32) (x2 : Int32) (x3 : Int32) (k_I0 : KX12 I0 M0) : wq (fX12_same N I0 L0 M0 x1 x2 x3) (fun r => (0 ≤ r.1.toInt ∧ r.1.toInt ≤ 1) ∧ KX12 r.2.1 r.2.2.2 ∧ True) := by
  unfold fX12_same
  refine wq_v (fun I0_1_q58379 h_I0_1_q58379 => ?_)
  have k_I0_1_q58379 : KX12 I0_1_q58379 M0 := by rw [h_I0_1_q58379]; exact KX12.si0 k_I0
  have b_58380 := i32b x3
  have l_1 := il_1
  have l_7 := il_7
  refine wq_b (tt_fX12_within hN x3 (1 : Int32) (7 : Int32)) (fun r2_q58381 h_r2_q58381 => ?_)
  obtain ⟨h_r2_q58381_0, h_r2_q58381_1, -⟩ := h_r2_q58381
  refine wq_b (tt_fX12_right hN I0_1_q58379 L0 M0 r2_q58381 (1 : Int32) ⟨by omega, by omega⟩ k_I0_1_q58379) (fun r3_q58382 h_r3_q58382 => ?_)
  obtain ⟨h_r3_q58382_0, h_r3_q58382_1, h_r3_q58382_2, h_r3_q58382_3, -⟩ := h_r3_q58382
  have t_58383 := KX12.i1 h_r3_q58382_3
  have t_58384 := KX12.i1 k_I0
  have t_58385 : (I0_1_q58379 1).toInt = (I0 1).toInt := by rw [h_I0_1_q58379]; rfl
  have l_0 := il_0
  refine wq_eq (fun hc_58386 => ?_) (fun hc_58387 => ?_)
  · exact wq_s ⟨(show 0 ≤ (0 : Int32).toInt ∧ (0 : Int32).toInt ≤ 1 from ⟨by omega, by omega⟩), h_r3_q58382_3, trivial⟩
  · have b_58388 := i32b x1
    refine wq_b (tt_fX12_isNumber hN r3_q58382.2.1 r3_q58382.2.2.1 r3_q58382.2.2.2 x1 h_r3_q58382_3) (fun r4_q58389 h_r4_q58389 => ?_)
    obtain ⟨h_r4_q58389_0, h_r4_q58389_1, h_r4_q58389_2, h_r4_q58389_3, -⟩ := h_r4_q58389
    have t_58390 := KX12.i1 h_r4_q58389_3
    refine wq_eq (fun hc_58391 => ?_) (fun hc_58392 => ?_)
    · exact wq_s ⟨(show 0 ≤ (0 : Int32).toInt ∧ (0 : Int32).toInt ≤ 1 from ⟨by omega, by omega⟩), h_r4_q58389_3, trivial⟩
    · have b_58393 := i32b x2
      refine wq_b (tt_fX12_isNumber hN r4_q58389.2.1 r4_q58389.2.2.1 r4_q58389.2.2.2 x2 h_r4_q58389_3) (fun r5_q58394 h_r5_q58394 => ?_)
      obtain ⟨h_r5_q58394_0, h_r5_q58394_1, h_r5_q58394_2, h_r5_q58394_3, -⟩ := h_r5_q58394
      have t_58395 := KX12.i1 h_r5_q58394_3
      refine wq_eq (fun hc_58396 => ?_) (fun hc_58397 => ?_)
      · exact wq_s ⟨(show 0 ≤ (0 : Int32).toInt ∧ (0 : Int32).toInt ≤ 1 from ⟨by omega, by omega⟩), h_r5_q58394_3, trivial⟩
      · refine wq_b (tt_fX12_areSame hN r5_q58394.2.1 r5_q58394.2.2.1 r5_q58394.2.2.2 x1 x2 x3 ⟨by omega, by omega⟩ ⟨by omega, by omega⟩ h_r5_q58394_3) (fun r6_q58398 h_r6_q58398 => ?_)
        obtain ⟨h_r6_q58398_0, -⟩ := h_r6_q58398
        refine wq_bz (by omega) ?_
        exact wq_s ⟨(show 0 ≤ r6_q58398.toInt ∧ r6_q58398.toInt ≤ 1 from ⟨by omega, by omega⟩), h_r5_q58394_3, trivial⟩
def PS (f : Nat → Int32) : Prop := ∀ j : Nat, j < 120 → 0 ≤ (f j).toInt ∧ (f j).toInt ≤ 119
theorem PS.um {f : Nat → Int32} (h : PS f) {i : Nat} {v : Int32} (hv : 0 ≤ v.toInt ∧ v.toInt ≤ 119) : PS (upd f i v) := by
  intro j hj
  unfold upd
  by_cases q : j = i
  · rw [if_pos q]; exact hv
  · rw [if_neg q]; exact h j hj
theorem sm_ud (f : Nat → Int32) (i : Nat) (v : Int32) : ∀ n : Nat, i < n → sm (upd f i v) 0 n = sm f 0 n - (f i).toInt + v.toInt := by
  intro n
  induction n with
  | zero => intro h; exact absurd h (by omega)
  | succ n ih =>
    intro h
    show sm (upd f i v) 0 n + (upd f i v (0 + n)).toInt = sm f 0 n + (f (0 + n)).toInt - (f i).toInt + v.toInt
    rw [Nat.zero_add]
    by_cases q : i = n
    · subst q
      rw [sm_up f 0 i v i (fun w hw => by omega)]
      have e : upd f i v i = v := if_pos rfl
      rw [e]; omega
    · have e : upd f i v n = f n := if_neg (fun z => q z.symm)
      rw [ih (by omega), e]; omega
theorem sm_nng (f : Nat → Int32) (h : PS f) : ∀ n : Nat, n ≤ 120 → 0 ≤ sm f 0 n ∧ sm f 0 n ≤ 119 * n := by
  intro n
  induction n with
  | zero => intro _; exact ⟨Int.le_refl _, Int.le_refl _⟩
  | succ n ih =>
    intro hn
    have a := ih (by omega)
    have b := h n (by omega)
    show 0 ≤ sm f 0 n + (f (0 + n)).toInt ∧ sm f 0 n + (f (0 + n)).toInt ≤ _
    rw [Nat.zero_add]
    omega
theorem bi_sum {f : Nat → Int32} {a b : Nat} (hab : b < a) (ha : a < 120) (z : Int32) : sm (upd (upd f a z) b z) 0 120 = sm f 0 120 - (f a).toInt - (f b).toInt + 2 * z.toInt := by
  rw [sm_ud _ b z 120 (by omega), sm_ud f a z 120 ha]
  have e : upd f a z b = f b := if_neg (by omega)
  rw [e]; omega
theorem tt_bi211 {N : Nat} (hN : 3000000000 ≤ N) (x1 x2 : Int32) (g43 g64 : (Nat → Int32) → Int64 → (Nat → Nat → Int32) → Int32 → Option (Int32 × (Nat → Int32) × Int64 × (Nat → Nat → Int32))) : ∀ (fu : Nat) (I : Nat → Int32) (L : Int64) (M : Nat → Nat → Int32) (y4 y5 : Int32), KX12 I M → (0 ≤ y5.toInt ∧ y5.toInt ≤ 120) → 120 - y5.toInt < (fu : Int) → wq (fX12_births_L211 N x1 x2 g43 g64 fu I L M y4 y5) (fun r => KX12 r.2.1 r.2.2.2 ∧ True) := by
  intro fu
  induction fu with
  | zero => intro I L M y4 y5 k hy hm; exfalso; omega
  | succ fu ih =>
    intro I L M y4 y5 k hy hm
    rw [fX12_births_L211.eq_2]
    have l_120 := il_120
    have l_1 := il_1
    refine wq_le (fun hc => wq_s ⟨k, trivial⟩) (fun hc => ?_)
    have t5 := ia_add y5 (1 : Int32) (by omega) (by omega)
    refine wq_in (n := 120) ⟨by omega, by omega⟩ ?_
    have nx : ∀ w v : Int32, v = y5 + (1 : Int32) → wq (fX12_births_L211 N x1 x2 g43 g64 fu I L M w v) (fun r => KX12 r.2.1 r.2.2.2 ∧ True) := by
      intro w v e
      have t6 := congrArg Int32.toInt e
      exact ih I L M w v k ⟨by omega, by omega⟩ (by omega)
    refine wq_i (fun hc2 => ?_) (fun hc2 => wq_v (fun w _ => wq_v (fun v e => nx w v e)))
    refine wq_b (tt_fX12_tells hN I L M y5 ⟨by omega, by omega⟩ k) (fun r _ => ?_)
    exact wq_i (fun _ => wq_v (fun w _ => wq_v (fun v e => nx w v e))) (fun _ => wq_v (fun w _ => wq_v (fun v e => nx w v e)))
theorem tt_bi156 {N : Nat} (x1 x2 a : Int32) (ha : 0 ≤ a.toInt ∧ a.toInt ≤ 119) (g43 g64 : (Nat → Int32) → Int64 → (Nat → Nat → Int32) → Int32 → Option (Int32 × (Nat → Int32) × Int64 × (Nat → Nat → Int32))) (g73 g83 : (Nat → Int32) → Int64 → (Nat → Nat → Int32) → Int32 → Int32 → Option (Int32 × (Nat → Int32) × Int64 × (Nat → Nat → Int32))) (Q : Int32 × (Nat → Int32) × Int64 × (Nat → Nat → Int32) → Prop) (I : Nat → Int32) (L : Int64) (M : Nat → Nat → Int32) (b z : Int32) (k : KX12 I M) (p : PS (M 31)) (hb : 0 ≤ b.toInt ∧ b.toInt < a.toInt) (hz : 0 ≤ z.toInt ∧ z.toInt ≤ 119) (hs : 2 * z.toInt < (M 31 a.toNatClampNeg).toInt + (M 31 b.toNatClampNeg).toInt) (hg : ∀ (m : Nat → Nat → Int32) (v : Int32), KX12 I m → PS (m 31) → sm (m 31) 0 120 + 1 ≤ sm (M 31) 0 120 → v = b + (1 : Int32) → wq (g83 I L m (1 : Int32) v) Q) : wq (fX12_births_J156 N x1 x2 a g43 g64 g73 g83 I L M b z) Q := by
  unfold fX12_births_J156
  refine wq_in (n := 120) ⟨by omega, by omega⟩ ?_
  refine wq_v (fun M1 e1 => ?_)
  refine wq_in (n := 120) ⟨by omega, by omega⟩ ?_
  refine wq_v (fun M2 e2 => ?_)
  refine wq_v (fun v e => ?_)
  have ca := tn_of a (by omega)
  have cb := tn_of b (by omega)
  have e31 : M2 31 = upd (upd (M 31) a.toNatClampNeg z) b.toNatClampNeg z := by rw [e2, e1]; rfl
  refine hg M2 v (by rw [e2, e1]; exact KX12.sm31 (KX12.sm31 k)) (by rw [e31]; exact PS.um (PS.um p hz) hz) ?_ e
  rw [e31, bi_sum (by omega) (by omega) z]
  omega
theorem tt_bi83 {N : Nat} (hN : 3000000000 ≤ N) (x1 x2 a : Int32) (ha : 0 ≤ a.toInt ∧ a.toInt ≤ 119) (g43 g64 : (Nat → Int32) → Int64 → (Nat → Nat → Int32) → Int32 → Option (Int32 × (Nat → Int32) × Int64 × (Nat → Nat → Int32))) (g73 : (Nat → Int32) → Int64 → (Nat → Nat → Int32) → Int32 → Int32 → Option (Int32 × (Nat → Int32) × Int64 × (Nat → Nat → Int32))) (S0 : Int) (Q : Int32 × (Nat → Int32) × Int64 × (Nat → Nat → Int32) → Prop) (hg : ∀ (I : Nat → Int32) (L : Int64) (M : Nat → Nat → Int32) (y v : Int32), KX12 I M → PS (M 31) → (0 ≤ y.toInt ∧ y.toInt ≤ 1) → sm (M 31) 0 120 + y.toInt ≤ S0 → v.toInt = a.toInt + 1 → wq (g73 I L M y v) Q) : ∀ (fu : Nat) (I : Nat → Int32) (L : Int64) (M : Nat → Nat → Int32) (y b : Int32), KX12 I M → PS (M 31) → (0 ≤ y.toInt ∧ y.toInt ≤ 1) → sm (M 31) 0 120 + y.toInt ≤ S0 → (0 ≤ b.toInt ∧ b.toInt ≤ a.toInt) → a.toInt - b.toInt < (fu : Int) → wq (fX12_births_L83 N x1 x2 a g43 g64 g73 fu I L M y b) Q := by
  intro fu
  induction fu with
  | zero => intro I L M y b k p hy hs hb hm; exfalso; omega
  | succ fu ih =>
    intro I L M y b k p hy hs hb hm
    rw [fX12_births_L83.eq_2]
    have l_1 := il_1
    have ta := ia_add a (1 : Int32) (by omega) (by omega)
    have tb := ia_add b (1 : Int32) (by omega) (by omega)
    refine wq_le (fun hc => wq_v (fun v e => hg I L M y v k p hy hs (by rw [e]; omega))) (fun hc => ?_)
    have nx : ∀ v : Int32, v = b + (1 : Int32) → wq (fX12_births_L83 N x1 x2 a g43 g64 g73 fu I L M y v) Q := by
      intro v e
      have t6 := congrArg Int32.toInt e
      exact ih I L M y v k p hy hs ⟨by omega, by omega⟩ (by omega)
    refine wq_in (n := 120) ⟨by omega, by omega⟩ ?_
    refine wq_in (n := 120) ⟨by omega, by omega⟩ ?_
    refine wq_eq (fun hc2 => wq_v (fun v e => nx v e)) (fun hc2 => ?_)
    refine wq_b (tt_fX12_areSame hN I L M a b x2 ha ⟨by omega, by omega⟩ k) (fun r _ => ?_)
    refine wq_i (fun hc3 => wq_v (fun v e => nx v e)) (fun hc3 => ?_)
    refine wq_in (n := 120) ⟨by omega, by omega⟩ ?_
    refine wq_in (n := 120) ⟨by omega, by omega⟩ ?_
    have ca := tn_of a (by omega)
    have cb := tn_of b (by omega)
    have pa := p a.toNatClampNeg (by omega)
    have pb := p b.toNatClampNeg (by omega)
    have jn : ∀ (m : Nat → Nat → Int32) (v : Int32), KX12 I m → PS (m 31) → sm (m 31) 0 120 + 1 ≤ sm (M 31) 0 120 → v = b + (1 : Int32) → wq (fX12_births_L83 N x1 x2 a g43 g64 g73 fu I L m (1 : Int32) v) Q := by
      intro m v km pm sm1 e
      have t6 := congrArg Int32.toInt e
      exact ih I L m (1 : Int32) v km pm ⟨by decide, by decide⟩ (by omega) ⟨by omega, by omega⟩ (by omega)
    refine wq_le (fun hc4 => ?_) (fun hc4 => ?_)
    · refine wq_in (n := 120) ⟨by omega, by omega⟩ ?_
      exact tt_bi156 x1 x2 a ha g43 g64 g73 _ Q I L M b _ k p ⟨by omega, by omega⟩ pb (by omega) jn
    · refine wq_in (n := 120) ⟨by omega, by omega⟩ ?_
      exact tt_bi156 x1 x2 a ha g43 g64 g73 _ Q I L M b _ k p ⟨by omega, by omega⟩ pa (by omega) jn

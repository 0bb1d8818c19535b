set_option maxHeartbeats 4000000 in
theorem tt_fX12_handed {N : Nat} (hN : 3000000000 ≤ N) (I0 : Nat → Int32) (L0 : Int64) (M0 : Nat → Nat → Int32) (x1 : Int32) (x2 : Int32) (x3 : Int32) (k_I0 : KX12 I0 M0) : wq (fX12_handed N I0 L0 M0 x1 x2 x3) (fun r => KX12 r.2.1 r.2.2.2 ∧ True) := by
  unfold fX12_handed
  refine wq_v (fun I0_1_q60108 h_I0_1_q60108 => ?_)
  have k_I0_1_q60108 : KX12 I0_1_q60108 M0 := by rw [h_I0_1_q60108]; exact KX12.si0 k_I0
  have b_60109 := i32b x1
  refine wq_b (tt_fX12_isBook hN I0_1_q60108 L0 M0 x1 k_I0_1_q60108) (fun r2_q60110 h_r2_q60110 => ?_)
  obtain ⟨h_r2_q60110_0, h_r2_q60110_1, h_r2_q60110_2, h_r2_q60110_3, -⟩ := h_r2_q60110
  have t_60111 := KX12.i1 h_r2_q60110_3
  have t_60112 := KX12.i1 k_I0
  have t_60113 : (I0_1_q60108 1).toInt = (I0 1).toInt := by rw [h_I0_1_q60108]; rfl
  have l_0 := il_0
  refine wq_eq (fun hc_60114 => ?_) (fun hc_60115 => ?_)
  · exact wq_s ⟨h_r2_q60110_3, trivial⟩
  · have b_60116 := i32b x2
    refine wq_b (tt_fX12_isBook hN r2_q60110.2.1 r2_q60110.2.2.1 r2_q60110.2.2.2 x2 h_r2_q60110_3) (fun r3_q60117 h_r3_q60117 => ?_)
    obtain ⟨h_r3_q60117_0, h_r3_q60117_1, h_r3_q60117_2, h_r3_q60117_3, -⟩ := h_r3_q60117
    have t_60118 := KX12.i1 h_r3_q60117_3
    refine wq_eq (fun hc_60119 => ?_) (fun hc_60120 => ?_)
    · exact wq_s ⟨h_r3_q60117_3, trivial⟩
    · have b_60121 := i32b x3
      refine wq_b (tt_fX12_isBook hN r3_q60117.2.1 r3_q60117.2.2.1 r3_q60117.2.2.2 x3 h_r3_q60117_3) (fun r4_q60122 h_r4_q60122 => ?_)
      obtain ⟨h_r4_q60122_0, h_r4_q60122_1, h_r4_q60122_2, h_r4_q60122_3, -⟩ := h_r4_q60122
      have t_60123 := KX12.i1 h_r4_q60122_3
      refine wq_eq (fun hc_60124 => ?_) (fun hc_60125 => ?_)
      · exact wq_s ⟨h_r4_q60122_3, trivial⟩
      · exact tt_fX12_handed_L37 hN x1 x2 x3 ⟨by omega, by omega⟩ ⟨by omega, by omega⟩ ⟨by omega, by omega⟩ N r4_q60122.2.1 r4_q60122.2.2.1 r4_q60122.2.2.2 (0 : Int32) (0 : Int32) ⟨by omega, by omega⟩ h_r4_q60122_3 (by omega)
set_option maxHeartbeats 4000000 in
theorem tt_fX12_leafAt_L2 {N : Nat} (hN : 3000000000 ≤ N) (I0 : Nat → Int32) (L0 : Int64) (M0 : Nat → Nat → Int32) (x1 : Int32) (x2 : Int32) (h_x1 : 0 ≤ x1.toInt ∧ x1.toInt ≤ 5) (k_I0 : KX12 I0 M0)  : ∀ (fu : Nat) (y2_3 : Int32), (0 ≤ y2_3.toInt ∧ y2_3.toInt ≤ 20) → (20 - y2_3.toInt) < (fu : Int) → wq (fX12_leafAt_L2 N I0 L0 M0 x1 x2 fu y2_3) (fun r => (-1 ≤ r.toInt ∧ r.toInt ≤ 19) ∧ True) := by
  intro fu
  induction fu with
  | zero => intro y2_3 h_y2_3 hm; exfalso; omega
  | succ fu ih =>
    intro y2_3 h_y2_3 hm
    rw [fX12_leafAt_L2.eq_2]
    refine wq_in (n := 6) ⟨by omega, by omega⟩ ?_
    have t_60258 := KX12.m27 k_I0 x1.toNatClampNeg
    refine wq_le (fun hc_60259 => ?_) (fun hc_60260 => ?_)
    · have l_m1 := il_m1
      exact wq_s ⟨(show -1 ≤ (-1 : Int32).toInt ∧ (-1 : Int32).toInt ≤ 19 from ⟨by omega, by omega⟩), trivial⟩
    · have l_20 := il_20
      have t_60261 := ia_mul (20 : Int32) (20) il_20 x1 (by omega) (by omega)
      have t_60262 := ia_add ((20 : Int32) * x1) y2_3 (by omega) (by omega)
      refine wq_in (n := 120) ⟨by omega, by omega⟩ ?_
      have b_60263 := i32b x2
      refine wq_eq (fun hc_60264 => ?_) (fun hc_60265 => ?_)
      · exact wq_s ⟨(show -1 ≤ y2_3.toInt ∧ y2_3.toInt ≤ 19 from ⟨by omega, by omega⟩), trivial⟩
      · have l_1 := il_1
        have t_60267 := ia_add y2_3 (1 : Int32) (by omega) (by omega)
        refine wq_v (fun v1_q60266 h_v1_q60266 => ?_)
        have t_v1_q60266 := congrArg Int32.toInt h_v1_q60266
        exact ih v1_q60266 ⟨by omega, by omega⟩ (by omega)
set_option maxHeartbeats 4000000 in
theorem tt_fX12_leafAt {N : Nat} (hN : 3000000000 ≤ N) (I0 : Nat → Int32) (L0 : Int64) (M0 : Nat → Nat → Int32) (x1 : Int32) (x2 : Int32) (h_x1 : 0 ≤ x1.toInt ∧ x1.toInt ≤ 5) (k_I0 : KX12 I0 M0) : wq (fX12_leafAt N I0 L0 M0 x1 x2) (fun r => (-1 ≤ r.toInt ∧ r.toInt ≤ 19) ∧ True) := by
  unfold fX12_leafAt
  have b_60268 := i32b x2
  have l_0 := il_0
  exact tt_fX12_leafAt_L2 hN I0 L0 M0 x1 x2 ⟨by omega, by omega⟩ k_I0 N (0 : Int32) ⟨by omega, by omega⟩ (by omega)
theorem ph_all : ∀ (n : Nat) (f : Nat → Nat), (∀ i : Nat, i ≤ n → f i < n) → ∃ i j : Nat, i < j ∧ j ≤ n ∧ f i = f j := by
  intro n
  induction n with
  | zero => intro f h; exact absurd (h 0 (Nat.le_refl 0)) (by omega)
  | succ n ih =>
    intro f h
    by_cases q : ∃ i : Nat, i ≤ n ∧ f i = f (n + 1)
    · obtain ⟨i, hi, e⟩ := q
      exact ⟨i, n + 1, by omega, Nat.le_refl _, e⟩
    · have q2 : ∀ i : Nat, i ≤ n → f i ≠ f (n + 1) := fun i hi e => q ⟨i, hi, e⟩
      obtain ⟨i, j, h1, h2, h3⟩ := ih (fun i => if f i = n then f (n + 1) else f i) (fun i hi => by
        have a := h i (by omega)
        have b := h (n + 1) (Nat.le_refl _)
        have c := q2 i hi
        show (if f i = n then f (n + 1) else f i) < n
        by_cases z : f i = n
        · rw [if_pos z]; omega
        · rw [if_neg z]; omega)
      refine ⟨i, j, h1, by omega, ?_⟩
      have c1 := q2 i (by omega)
      have c2 := q2 j h2
      have h3 : (if f i = n then f (n + 1) else f i) = (if f j = n then f (n + 1) else f j) := h3
      by_cases z1 : f i = n
      · by_cases z2 : f j = n
        · omega
        · rw [if_pos z1, if_neg z2] at h3; omega
      · by_cases z2 : f j = n
        · rw [if_neg z1, if_pos z2] at h3; omega
        · rw [if_neg z1, if_neg z2] at h3; exact h3
theorem lv_room9 {m f : Nat → Int32} (h : LV m f) {b : Nat} {w : Int32} (hb : b < 6) (hw : 0 ≤ w.toInt ∧ w.toInt ≤ 19) (hn : ∀ i : Nat, (i : Int) < (m b).toInt → f (20 * b + i) ≠ w) : (m b).toInt ≤ 19 := by
  rcases Int.lt_or_le 19 (m b).toInt with q | q
  · exfalso
    obtain ⟨i, j, h1, h2, h3⟩ := ph_all 20 (fun i => if i < 20 then (f (20 * b + i)).toInt.toNat else w.toInt.toNat) (fun i hi => by
      show (if i < 20 then (f (20 * b + i)).toInt.toNat else w.toInt.toNat) < 20
      have a := h.1 (20 * b + i)
      by_cases z : i < 20
      · rw [if_pos z]; omega
      · rw [if_neg z]; omega)
    have i20 : i < 20 := by omega
    have h3 : (if i < 20 then (f (20 * b + i)).toInt.toNat else w.toInt.toNat) = (if j < 20 then (f (20 * b + j)).toInt.toNat else w.toInt.toNat) := h3
    rw [if_pos i20] at h3
    have a := h.1 (20 * b + i)
    have a2 := h.1 (20 * b + j)
    by_cases z : j < 20
    · rw [if_pos z] at h3
      exact h.2 b i j hb h1 (by omega) (Int32.toInt_inj.mp (by omega))
    · rw [if_neg z] at h3
      exact hn i (by omega) (Int32.toInt_inj.mp (by omega))
  · exact q
theorem LV.add {m f : Nat → Int32} (h : LV m f) {b : Nat} {w : Int32} (hm : ∀ b : Nat, 0 ≤ (m b).toInt ∧ (m b).toInt ≤ 20) (hc : (m b).toInt ≤ 19) (hw : 0 ≤ w.toInt ∧ w.toInt ≤ 19) (hn : ∀ i : Nat, (i : Int) < (m b).toInt → f (20 * b + i) ≠ w) {v : Int32} (hv : v.toInt = (m b).toInt + 1) {j : Nat} (hj : (j : Int) = 20 * b + (m b).toInt) : LV (upd m b v) (upd f j w) := by
  refine ⟨ar_upd h.1 hw, fun b2 i j2 hb2 hij hj2 => ?_⟩
  have m2 := hm b2
  have mb := hm b
  by_cases q : b2 = b
  · subst q
    have e : upd m b2 v b2 = v := if_pos rfl
    rw [e, hv] at hj2
    have n1 : ¬ (20 * b2 + i = j) := by omega
    have e1 : upd f j w (20 * b2 + i) = f (20 * b2 + i) := if_neg n1
    rw [e1]
    by_cases z : 20 * b2 + j2 = j
    · have e2 : upd f j w (20 * b2 + j2) = w := if_pos z
      rw [e2]
      exact hn i (by omega)
    · have e2 : upd f j w (20 * b2 + j2) = f (20 * b2 + j2) := if_neg z
      rw [e2]
      exact h.2 b2 i j2 hb2 hij (by omega)
  · have e : upd m b v b2 = m b2 := if_neg q
    rw [e] at hj2
    have n1 : ¬ (20 * b2 + i = j) := by omega
    have n2 : ¬ (20 * b2 + j2 = j) := by omega
    have e1 : upd f j w (20 * b2 + i) = f (20 * b2 + i) := if_neg n1
    have e2 : upd f j w (20 * b2 + j2) = f (20 * b2 + j2) := if_neg n2
    rw [e1, e2]
    exact h.2 b2 i j2 hb2 hij hj2
theorem KX12.leafy {I : Nat → Int32} {M : Nat → Nat → Int32} (k : KX12 I M) {b j : Nat} {v w : Int32} (hv : 0 ≤ v.toInt ∧ v.toInt ≤ 20) (hl : LV (upd (M 27) b v) (upd (M 28) j w)) : KX12 I (wb_um (wb_um M 28 j w) 27 b v) := ⟨k.i1, k.i2, k.i3, k.i6, k.i7, k.i12, k.i13, k.i14, k.i16, k.i17, k.i18, k.i19, k.m7, k.m12, k.m16, k.m23, k.m24, ar_upd k.m27 hv, k.m35, k.m36, k.er1, k.er2, k.een, k.edn, hl, k.ese, k.esi, k.epd, trivial⟩
theorem tu_leafAt_L2 {N : Nat} (I : Nat → Int32) (L : Int64) (M : Nat → Nat → Int32) (x1 x2 : Int32) (h1 : 0 ≤ x1.toInt ∧ x1.toInt ≤ 5) (k : KX12 I M) : ∀ (fu : Nat) (y : Int32), (0 ≤ y.toInt ∧ y.toInt ≤ 20) → (∀ i : Nat, (i : Int) < y.toInt → M 28 (20 * x1.toNatClampNeg + i) ≠ x2) → 20 - y.toInt < (fu : Int) → wq (fX12_leafAt_L2 N I L M x1 x2 fu y) (fun r => r.toInt = -1 → ∀ i : Nat, (i : Int) < (M 27 x1.toNatClampNeg).toInt → M 28 (20 * x1.toNatClampNeg + i) ≠ x2) := by
  intro fu
  induction fu with
  | zero => intro y hy _ hm; exfalso; omega
  | succ fu ih =>
    intro y hy hq hm
    rw [fX12_leafAt_L2.eq_2]
    have l_20 := il_20
    have l_1 := il_1
    have c := tn_of x1 (by omega)
    have m27 := k.m27 x1.toNatClampNeg
    refine wq_in (n := 6) ⟨by omega, by omega⟩ ?_
    refine wq_le (fun hc => wq_s (fun _ i hi => hq i (by omega))) (fun hc => ?_)
    have t1 := ia_mul (20 : Int32) 20 il_20 x1 (by omega) (by omega)
    have t2 := ia_add ((20 : Int32) * x1) y (by omega) (by omega)
    have c2 := tn_of ((20 : Int32) * x1 + y) (by omega)
    refine wq_in (n := 120) ⟨by omega, by omega⟩ ?_
    refine wq_i (fun hc2 => wq_s (fun e => by omega)) (fun hc2 => ?_)
    have t5 := ia_add y (1 : Int32) (by omega) (by omega)
    refine wq_v (fun v e => ?_)
    have t6 := congrArg Int32.toInt e
    refine ih v ⟨by omega, by omega⟩ (fun i hi => ?_) (by omega)
    by_cases z : (i : Int) < y.toInt
    · exact hq i z
    · have e9 : 20 * x1.toNatClampNeg + i = ((20 : Int32) * x1 + y).toNatClampNeg := by omega
      rw [e9]; exact hc2
theorem tt_fX12_leaf {N : Nat} (hN : 3000000000 ≤ N) (I0 : Nat → Int32) (L0 : Int64) (M0 : Nat → Nat → Int32) (x1 : Int32) (x2 : Int32) (k_I0 : KX12 I0 M0) : wq (fX12_leaf N I0 L0 M0 x1 x2) (fun r => KX12 r.2.1 r.2.2.2 ∧ True) := by
  unfold fX12_leaf
  refine wq_b (tt_fX12_isWheel hN I0 L0 M0 x1 x2 k_I0) (fun r hr => ?_)
  have l_0 := il_0
  have l_20 := il_20
  have l_1 := il_1
  obtain ⟨hr0, -, -, k, -⟩ := hr
  refine wq_eq (fun hc => wq_s ⟨k, trivial⟩) (fun hc => ?_)
  have h1 : 0 ≤ x1.toInt ∧ x1.toInt ≤ 5 := ⟨by omega, by omega⟩
  have h2 : 0 ≤ x2.toInt ∧ x2.toInt ≤ 19 := ⟨by omega, by omega⟩
  have hla : wq (fX12_leafAt N r.2.1 r.2.2.1 r.2.2.2 x1 x2) (fun q => q.toInt = -1 → ∀ i : Nat, (i : Int) < (r.2.2.2 27 x1.toNatClampNeg).toInt → r.2.2.2 28 (20 * x1.toNatClampNeg + i) ≠ x2) := by
    unfold fX12_leafAt
    exact tu_leafAt_L2 r.2.1 r.2.2.1 r.2.2.2 x1 x2 h1 k N (0 : Int32) ⟨by omega, by omega⟩ (fun i hi => by exfalso; omega) (by omega)
  refine wq_b hla (fun r2 h3 => ?_)
  refine wq_i (fun hc2 => ?_) (fun hc2 => wq_s ⟨k, trivial⟩)
  have e2 : r2.toInt = -1 := by rw [hc2]; decide
  have h4 := h3 e2
  have c := tn_of x1 (by omega)
  have m27 := k.m27 x1.toNatClampNeg
  have h19 := lv_room9 k.elv (b := x1.toNatClampNeg) (by omega) h2 h4
  have t1 := ia_mul (20 : Int32) 20 il_20 x1 (by omega) (by omega)
  have t2 := ia_add ((20 : Int32) * x1) (r.2.2.2 27 x1.toNatClampNeg) (by omega) (by omega)
  have t3 := ia_add (r.2.2.2 27 x1.toNatClampNeg) (1 : Int32) (by omega) (by omega)
  have c2 := tn_of ((20 : Int32) * x1 + r.2.2.2 27 x1.toNatClampNeg) (by omega)
  refine wq_in (n := 6) ⟨by omega, by omega⟩ ?_
  refine wq_in (n := 120) ⟨by omega, by omega⟩ ?_
  refine wq_v (fun M3 e3 => ?_)
  refine wq_in (n := 6) ⟨by omega, by omega⟩ ?_
  refine wq_in (n := 6) ⟨by omega, by omega⟩ ?_
  have e27 : M3 27 = r.2.2.2 27 := by rw [e3]; rfl
  refine wq_v (fun M4 e4 => ?_)
  refine wq_in (n := 6) ⟨by omega, by omega⟩ ?_
  refine wq_s ⟨?_, trivial⟩
  show KX12 r.2.1 M4
  rw [e4, e27, e3]
  exact KX12.leafy k ⟨by omega, by omega⟩ (LV.add k.elv k.m27 h19 h2 h4 (by omega) (by omega))
set_option maxHeartbeats 4000000 in
theorem tt_fX12_order_L135 {N : Nat} (hN : 3000000000 ≤ N) (x1 : Int32) (x2 : Int32) (x3 : Int32) (y117_5 : Int32) (y117_7 : Int32) (y51_4 : Int32) (g51 : (Nat → Int32) → Int64 → (Nat → Nat → Int32) → Int32 → Int32 → Option (Int32 × (Nat → Int32) × Int64 × (Nat → Nat → Int32))) (g117 : (Nat → Int32) → Int64 → (Nat → Nat → Int32) → Int32 → Int32 → Int32 → Option (Int32 × (Nat → Int32) × Int64 × (Nat → Nat → Int32))) (h_x1 : 0 ≤ x1.toInt ∧ x1.toInt ≤ 5) (h_x2 : 0 ≤ x2.toInt ∧ x2.toInt ≤ 5) (h_y117_5 : 0 ≤ y117_5.toInt ∧ y117_5.toInt ≤ 2147483647) (h_y117_7 : 0 ≤ y117_7.toInt ∧ y117_7.toInt ≤ 19) (h_y51_4 : 1 ≤ y51_4.toInt ∧ y51_4.toInt ≤ 20) (hg117 : ∀ (q0 : (Nat → Int32)) (q1 : Int64) (q2 : (Nat → Nat → Int32)) (q3 : Int32) (q4 : Int32) (q5 : Int32), (0 ≤ q3.toInt ∧ q3.toInt ≤ 2147483647) → (0 ≤ q5.toInt ∧ q5.toInt ≤ 20) → (KX12 q0 q2) → (y117_7.toInt < q5.toInt) → wq (g117 q0 q1 q2 q3 q4 q5) (fun r => KX12 r.2.1 r.2.2.2 ∧ True)) : ∀ (fu : Nat) (I0_l135 : (Nat → Int32)) (L0_l135 : Int64) (M0_l135 : (Nat → Nat → Int32)) (y135_6 : Int32) (y135_8 : Int32), (0 ≤ y135_8.toInt ∧ y135_8.toInt ≤ 19) → (KX12 I0_l135 M0_l135) → (19 - y135_8.toInt) < (fu : Int) → wq (fX12_order_L135 N x1 x2 x3 y117_5 y117_7 y51_4 g51 g117 fu I0_l135 L0_l135 M0_l135 y135_6 y135_8) (fun r => KX12 r.2.1 r.2.2.2 ∧ True) := by
  intro fu
  induction fu with
  | zero => intro I0_l135 L0_l135 M0_l135 y135_6 y135_8 h_y135_8 k_I0_l135 hm; exfalso; omega
  | succ fu ih =>
    intro I0_l135 L0_l135 M0_l135 y135_6 y135_8 h_y135_8 k_I0_l135 hm
    rw [fX12_order_L135.eq_2]
    refine wq_le (fun hc_61650 => ?_) (fun hc_61651 => ?_)
    · refine wq_in (n := 20) ⟨by omega, by omega⟩ ?_
      have b_61652 := i32b y117_5
      refine wq_le (fun hc_61653 => ?_) (fun hc_61654 => ?_)
      · have l_1 := il_1
        have t_61656 := ia_add y117_7 (1 : Int32) (by omega) (by omega)
        refine wq_v (fun v3_q61655 h_v3_q61655 => ?_)
        have t_v3_q61655 := congrArg Int32.toInt h_v3_q61655
        have b_61657 := i32b y135_6
        exact hg117 I0_l135 L0_l135 M0_l135 y117_5 y135_6 v3_q61655 ⟨by omega, by omega⟩ ⟨by omega, by omega⟩ k_I0_l135 (by omega)
      · refine wq_in (n := 20) ⟨by omega, by omega⟩ ?_
        refine wq_v (fun v4_q61658 h_v4_q61658 => ?_)
        have t_v4_q61658 := congrArg Int32.toInt h_v4_q61658
        have l_1 := il_1
        have t_61660 := ia_add y117_7 (1 : Int32) (by omega) (by omega)
        refine wq_v (fun v5_q61659 h_v5_q61659 => ?_)
        have t_v5_q61659 := congrArg Int32.toInt h_v5_q61659
        have b_61661 := i32b v4_q61658
        have b_61662 := i32b y135_6
        exact hg117 I0_l135 L0_l135 M0_l135 v4_q61658 y135_6 v5_q61659 ⟨by omega, by omega⟩ ⟨by omega, by omega⟩ k_I0_l135 (by omega)
    · refine wq_in (n := 20) ⟨by omega, by omega⟩ ?_
      refine wq_in (n := 20) ⟨by omega, by omega⟩ ?_
      refine wq_le (fun hc_61663 => ?_) (fun hc_61664 => ?_)
      · refine wq_in (n := 20) ⟨by omega, by omega⟩ ?_
        refine wq_in (n := 20) ⟨by omega, by omega⟩ ?_
        have l_1 := il_1
        refine wq_le (fun hc_61665 => ?_) (fun hc_61666 => ?_)
        · have t_61668 := ia_add y135_8 (1 : Int32) (by omega) (by omega)
          refine wq_v (fun v6_q61667 h_v6_q61667 => ?_)
          have t_v6_q61667 := congrArg Int32.toInt h_v6_q61667
          have b_61669 := i32b y135_6
          exact ih I0_l135 L0_l135 M0_l135 y135_6 v6_q61667 ⟨by omega, by omega⟩ k_I0_l135 (by omega)
        · refine wq_in (n := 20) ⟨by omega, by omega⟩ ?_
          refine wq_in (n := 20) ⟨by omega, by omega⟩ ?_
          refine wq_v (fun M0_7_q61670 h_M0_7_q61670 => ?_)
          have k_M0_7_q61670 : KX12 I0_l135 M0_7_q61670 := by rw [h_M0_7_q61670]; exact KX12.sm30 k_I0_l135
          have t_61672 := ia_add y135_8 (1 : Int32) (by omega) (by omega)
          refine wq_v (fun v8_q61671 h_v8_q61671 => ?_)
          have t_v8_q61671 := congrArg Int32.toInt h_v8_q61671
          have b_61673 := i32b y135_6
          exact ih I0_l135 L0_l135 M0_7_q61670 y135_6 v8_q61671 ⟨by omega, by omega⟩ k_M0_7_q61670 (by omega)
      · have b_61675 := i32b y135_6
        have l_1 := il_1
        refine wq_v (fun v9_q61674 h_v9_q61674 => ?_)
        have t_v9_q61674 := congrArg Int32.toInt h_v9_q61674
        have t_61677 := ia_add y135_8 (1 : Int32) (by omega) (by omega)
        refine wq_v (fun v10_q61676 h_v10_q61676 => ?_)
        have t_v10_q61676 := congrArg Int32.toInt h_v10_q61676
        have b_61678 := i32b v9_q61674
        exact ih I0_l135 L0_l135 M0_l135 v9_q61674 v10_q61676 ⟨by omega, by omega⟩ k_I0_l135 (by omega)
set_option maxHeartbeats 4000000 in
theorem tt_fX12_order_L117 {N : Nat} (hN : 3000000000 ≤ N) (x1 : Int32) (x2 : Int32) (x3 : Int32) (y51_4 : Int32) (g51 : (Nat → Int32) → Int64 → (Nat → Nat → Int32) → Int32 → Int32 → Option (Int32 × (Nat → Int32) × Int64 × (Nat → Nat → Int32))) (h_x1 : 0 ≤ x1.toInt ∧ x1.toInt ≤ 5) (h_x2 : 0 ≤ x2.toInt ∧ x2.toInt ≤ 5) (h_y51_4 : 0 ≤ y51_4.toInt ∧ y51_4.toInt ≤ 20)  : ∀ (fu : Nat) (I0_l117 : (Nat → Int32)) (L0_l117 : Int64) (M0_l117 : (Nat → Nat → Int32)) (y117_5 : Int32) (y117_6 : Int32) (y117_7 : Int32), (0 ≤ y117_5.toInt ∧ y117_5.toInt ≤ 2147483647) → (0 ≤ y117_7.toInt ∧ y117_7.toInt ≤ 20) → (KX12 I0_l117 M0_l117) → (20 - y117_7.toInt) < (fu : Int) → wq (fX12_order_L117 N x1 x2 x3 y51_4 g51 fu I0_l117 L0_l117 M0_l117 y117_5 y117_6 y117_7) (fun r => KX12 r.2.1 r.2.2.2 ∧ True) := by
  intro fu
  induction fu with
  | zero => intro I0_l117 L0_l117 M0_l117 y117_5 y117_6 y117_7 h_y117_5 h_y117_7 k_I0_l117 hm; exfalso; omega
  | succ fu ih =>
    intro I0_l117 L0_l117 M0_l117 y117_5 y117_6 y117_7 h_y117_5 h_y117_7 k_I0_l117 hm
    rw [fX12_order_L117.eq_2]
    refine wq_le (fun hc_61679 => ?_) (fun hc_61680 => ?_)
    · have b_61681 := i32b x3
      have l_0 := il_0
      refine wq_eq (fun hc_61682 => ?_) (fun hc_61683 => ?_)
      · have b_61684 := i32b y117_5
        exact wq_s ⟨k_I0_l117, trivial⟩
      · have b_61685 := i32b y117_6
        exact wq_s ⟨k_I0_l117, trivial⟩
    · refine wq_in (n := 20) ⟨by omega, by omega⟩ ?_
      refine wq_v (fun M0_2_q61686 h_M0_2_q61686 => ?_)
      have k_M0_2_q61686 : KX12 I0_l117 M0_2_q61686 := by rw [h_M0_2_q61686]; exact KX12.sm30 k_I0_l117
      have b_61687 := i32b x3
      have b_61688 := i32b y117_5
      have b_61689 := i32b y117_6
      have l_0 := il_0
      exact tt_fX12_order_L135 hN x1 x2 x3 y117_5 y117_7 y51_4 g51 _ ⟨by omega, by omega⟩ ⟨by omega, by omega⟩ ⟨by omega, by omega⟩ ⟨by omega, by omega⟩ ⟨by omega, by omega⟩ (fun q0 q1 q2 q3 q4 q5 hq0 hq1 hq2 hq3 => ih q0 q1 q2 q3 q4 q5 hq0 hq1 hq2 (by omega)) N I0_l117 L0_l117 M0_2_q61686 y117_6 (0 : Int32) ⟨by omega, by omega⟩ k_M0_2_q61686 (by omega)
set_option maxHeartbeats 4000000 in
theorem tt_fX12_order_L51 {N : Nat} (hN : 3000000000 ≤ N) (x1 : Int32) (x2 : Int32) (x3 : Int32) (h_x1 : 0 ≤ x1.toInt ∧ x1.toInt ≤ 5) (h_x2 : 0 ≤ x2.toInt ∧ x2.toInt ≤ 5)  : ∀ (fu : Nat) (I0_l51 : (Nat → Int32)) (L0_l51 : Int64) (M0_l51 : (Nat → Nat → Int32)) (y51_4 : Int32) (y51_5 : Int32), (0 ≤ y51_4.toInt ∧ y51_4.toInt ≤ 20) → (0 ≤ y51_5.toInt ∧ y51_5.toInt ≤ 20) → (KX12 I0_l51 M0_l51) → (y51_4.toInt ≤ y51_5.toInt) → (20 - y51_5.toInt) < (fu : Int) → wq (fX12_order_L51 N x1 x2 x3 fu I0_l51 L0_l51 M0_l51 y51_4 y51_5) (fun r => KX12 r.2.1 r.2.2.2 ∧ True) := by
  intro fu
  induction fu with
  | zero => intro I0_l51 L0_l51 M0_l51 y51_4 y51_5 h_y51_4 h_y51_5 k_I0_l51 hl_3 hm; exfalso; omega
  | succ fu ih =>
    intro I0_l51 L0_l51 M0_l51 y51_4 y51_5 h_y51_4 h_y51_5 k_I0_l51 hl_3 hm
    rw [fX12_order_L51.eq_2]
    refine wq_in (n := 6) ⟨by omega, by omega⟩ ?_
    have t_61690 := KX12.m27 k_I0_l51 x1.toNatClampNeg
    refine wq_le (fun hc_61691 => ?_) (fun hc_61692 => ?_)
    · have b_61693 := i32b x3
      have l_0 := il_0
      exact tt_fX12_order_L117 hN x1 x2 x3 y51_4 _ ⟨by omega, by omega⟩ ⟨by omega, by omega⟩ ⟨by omega, by omega⟩ N I0_l51 L0_l51 M0_l51 (0 : Int32) (0 : Int32) (0 : Int32) ⟨by omega, by omega⟩ ⟨by omega, by omega⟩ k_I0_l51 (by omega)
    · have l_20 := il_20
      have t_61694 := ia_mul (20 : Int32) (20) il_20 x1 (by omega) (by omega)
      have t_61695 := ia_add ((20 : Int32) * x1) y51_5 (by omega) (by omega)
      refine wq_in (n := 120) ⟨by omega, by omega⟩ ?_
      refine wq_b (tt_fX12_leafAt hN I0_l51 L0_l51 M0_l51 x2 (M0_l51 28 (((20 : Int32) * x1) + y51_5).toNatClampNeg) ⟨by omega, by omega⟩ k_I0_l51) (fun r11_q61696 h_r11_q61696 => ?_)
      obtain ⟨h_r11_q61696_0, -⟩ := h_r11_q61696
      have l_m1 := il_m1
      refine wq_eq (fun hc_61697 => ?_) (fun hc_61698 => ?_)
      · have l_1 := il_1
        have t_61700 := ia_add y51_5 (1 : Int32) (by omega) (by omega)
        refine wq_v (fun v15_q61699 h_v15_q61699 => ?_)
        have t_v15_q61699 := congrArg Int32.toInt h_v15_q61699
        exact ih I0_l51 L0_l51 M0_l51 y51_4 v15_q61699 ⟨by omega, by omega⟩ ⟨by omega, by omega⟩ k_I0_l51 (by omega) (by omega)
      · refine wq_in (n := 20) ⟨by omega, by omega⟩ ?_
        refine wq_v (fun M0_12_q61701 h_M0_12_q61701 => ?_)
        have k_M0_12_q61701 : KX12 I0_l51 M0_12_q61701 := by rw [h_M0_12_q61701]; exact KX12.sm29 k_I0_l51
        have l_1 := il_1
        have t_61703 := ia_add y51_4 (1 : Int32) (by omega) (by omega)
        refine wq_v (fun v13_q61702 h_v13_q61702 => ?_)
        have t_v13_q61702 := congrArg Int32.toInt h_v13_q61702
        have t_61705 := ia_add y51_5 (1 : Int32) (by omega) (by omega)
        refine wq_v (fun v14_q61704 h_v14_q61704 => ?_)
        have t_v14_q61704 := congrArg Int32.toInt h_v14_q61704
        exact ih I0_l51 L0_l51 M0_12_q61701 v13_q61702 v14_q61704 ⟨by omega, by omega⟩ ⟨by omega, by omega⟩ k_M0_12_q61701 (by omega) (by omega)
set_option maxHeartbeats 4000000 in
theorem tt_fX12_order {N : Nat} (hN : 3000000000 ≤ N) (I0 : Nat → Int32) (L0 : Int64) (M0 : Nat → Nat → Int32) (x1 : Int32) (x2 : Int32) (x3 : Int32) (k_I0 : KX12 I0 M0) : wq (fX12_order N I0 L0 M0 x1 x2 x3) (fun r => KX12 r.2.1 r.2.2.2 ∧ True) := by
  unfold fX12_order
  refine wq_v (fun I0_16_q61706 h_I0_16_q61706 => ?_)
  have k_I0_16_q61706 : KX12 I0_16_q61706 M0 := by rw [h_I0_16_q61706]; exact KX12.si0 k_I0
  have b_61707 := i32b x1
  refine wq_b (tt_fX12_isBook hN I0_16_q61706 L0 M0 x1 k_I0_16_q61706) (fun r17_q61708 h_r17_q61708 => ?_)
  obtain ⟨h_r17_q61708_0, h_r17_q61708_1, h_r17_q61708_2, h_r17_q61708_3, -⟩ := h_r17_q61708
  have t_61709 := KX12.i1 h_r17_q61708_3
  have t_61710 := KX12.i1 k_I0
  have t_61711 : (I0_16_q61706 1).toInt = (I0 1).toInt := by rw [h_I0_16_q61706]; rfl
  have l_0 := il_0
  refine wq_eq (fun hc_61712 => ?_) (fun hc_61713 => ?_)
  · exact wq_s ⟨h_r17_q61708_3, trivial⟩
  · have b_61714 := i32b x2
    refine wq_b (tt_fX12_isBook hN r17_q61708.2.1 r17_q61708.2.2.1 r17_q61708.2.2.2 x2 h_r17_q61708_3) (fun r18_q61715 h_r18_q61715 => ?_)
    obtain ⟨h_r18_q61715_0, h_r18_q61715_1, h_r18_q61715_2, h_r18_q61715_3, -⟩ := h_r18_q61715
    have t_61716 := KX12.i1 h_r18_q61715_3
    refine wq_eq (fun hc_61717 => ?_) (fun hc_61718 => ?_)
    · exact wq_s ⟨h_r18_q61715_3, trivial⟩
    · have b_61719 := i32b x3
      refine wq_eq (fun hc_61720 => ?_) (fun hc_61721 => ?_)
      · unfold fX12_order_J31
        unfold fX12_order_J36
        have l_1 := il_1
        refine wq_b (tt_fX12_right hN r18_q61715.2.1 r18_q61715.2.2.1 r18_q61715.2.2.2 (1 : Int32) (1 : Int32) ⟨by omega, by omega⟩ h_r18_q61715_3) (fun r1_q61722 h_r1_q61722 => ?_)
        obtain ⟨h_r1_q61722_0, h_r1_q61722_1, h_r1_q61722_2, h_r1_q61722_3, -⟩ := h_r1_q61722
        have t_61723 := KX12.i1 h_r1_q61722_3
        refine wq_eq (fun hc_61724 => ?_) (fun hc_61725 => ?_)
        · exact wq_s ⟨h_r1_q61722_3, trivial⟩
        · exact tt_fX12_order_L51 hN x1 x2 x3 ⟨by omega, by omega⟩ ⟨by omega, by omega⟩ N r1_q61722.2.1 r1_q61722.2.2.1 r1_q61722.2.2.2 (0 : Int32) (0 : Int32) ⟨by omega, by omega⟩ ⟨by omega, by omega⟩ h_r1_q61722_3 (by omega) (by omega)
      · have l_1 := il_1
        refine wq_eq (fun hc_61726 => ?_) (fun hc_61727 => ?_)
        · unfold fX12_order_J31
          unfold fX12_order_J36
          refine wq_b (tt_fX12_right hN r18_q61715.2.1 r18_q61715.2.2.1 r18_q61715.2.2.2 (1 : Int32) (1 : Int32) ⟨by omega, by omega⟩ h_r18_q61715_3) (fun r1_q61728 h_r1_q61728 => ?_)
          obtain ⟨h_r1_q61728_0, h_r1_q61728_1, h_r1_q61728_2, h_r1_q61728_3, -⟩ := h_r1_q61728
          have t_61729 := KX12.i1 h_r1_q61728_3
          refine wq_eq (fun hc_61730 => ?_) (fun hc_61731 => ?_)
          · exact wq_s ⟨h_r1_q61728_3, trivial⟩
          · exact tt_fX12_order_L51 hN x1 x2 x3 ⟨by omega, by omega⟩ ⟨by omega, by omega⟩ N r1_q61728.2.1 r1_q61728.2.2.1 r1_q61728.2.2.2 (0 : Int32) (0 : Int32) ⟨by omega, by omega⟩ ⟨by omega, by omega⟩ h_r1_q61728_3 (by omega) (by omega)
        · unfold fX12_order_J36
          refine wq_b (tt_fX12_right hN r18_q61715.2.1 r18_q61715.2.2.1 r18_q61715.2.2.2 (0 : Int32) (1 : Int32) ⟨by omega, by omega⟩ h_r18_q61715_3) (fun r1_q61732 h_r1_q61732 => ?_)
          obtain ⟨h_r1_q61732_0, h_r1_q61732_1, h_r1_q61732_2, h_r1_q61732_3, -⟩ := h_r1_q61732
          have t_61733 := KX12.i1 h_r1_q61732_3
          refine wq_eq (fun hc_61734 => ?_) (fun hc_61735 => ?_)
          · exact wq_s ⟨h_r1_q61732_3, trivial⟩
          · exact tt_fX12_order_L51 hN x1 x2 x3 ⟨by omega, by omega⟩ ⟨by omega, by omega⟩ N r1_q61732.2.1 r1_q61732.2.2.1 r1_q61732.2.2.2 (0 : Int32) (0 : Int32) ⟨by omega, by omega⟩ ⟨by omega, by omega⟩ h_r1_q61732_3 (by omega) (by omega)
set_option maxHeartbeats 4000000 in
theorem tt_fX12_areSame_L6 {N : Nat} (hN : 3000000000 ≤ N) (I0 : Nat → Int32) (L0 : Int64) (M0 : Nat → Nat → Int32) (x1 : Int32) (x2 : Int32) (x3 : Int32) (h_x1 : 0 ≤ x1.toInt ∧ x1.toInt ≤ 119) (h_x2 : 0 ≤ x2.toInt ∧ x2.toInt ≤ 119) (k_I0 : KX12 I0 M0)  : ∀ (fu : Nat) (y6_4 : Int32) (y6_5 : Int32), (0 ≤ y6_5.toInt ∧ y6_5.toInt ≤ 7) → (7 - y6_5.toInt) < (fu : Int) → wq (fX12_areSame_L6 N I0 L0 M0 x1 x2 x3 fu y6_4 y6_5) (fun r => (0 ≤ r.toInt ∧ r.toInt ≤ 1) ∧ True) := by
  intro fu
  induction fu with
  | zero => intro y6_4 y6_5 h_y6_5 hm; exfalso; omega
  | succ fu ih =>
    intro y6_4 y6_5 h_y6_5 hm
    rw [fX12_areSame_L6.eq_2]
    have l_7 := il_7
    refine wq_le (fun hc_62201 => ?_) (fun hc_62202 => ?_)
    · have b_62203 := i32b y6_4
      have b_62204 := i32b x3
      refine wq_lt (fun hc_62205 => ?_) (fun hc_62206 => ?_)
      · have l_0 := il_0
        exact wq_s ⟨(show 0 ≤ (0 : Int32).toInt ∧ (0 : Int32).toInt ≤ 1 from ⟨by omega, by omega⟩), trivial⟩
      · have l_1 := il_1
        exact wq_s ⟨(show 0 ≤ (1 : Int32).toInt ∧ (1 : Int32).toInt ≤ 1 from ⟨by omega, by omega⟩), trivial⟩
    · refine wq_b (tt_fX12_at hN I0 L0 M0 x1 y6_5 ⟨by omega, by omega⟩ ⟨by omega, by omega⟩ k_I0) (fun r1_q62207 h_r1_q62207 => ?_)
      obtain ⟨h_r1_q62207_0, h_r1_q62207_1, h_r1_q62207_2, -⟩ := h_r1_q62207
      refine wq_b (tt_fX12_at hN I0 L0 M0 x2 y6_5 ⟨by omega, by omega⟩ ⟨by omega, by omega⟩ k_I0) (fun r2_q62208 h_r2_q62208 => ?_)
      obtain ⟨h_r2_q62208_0, h_r2_q62208_1, h_r2_q62208_2, -⟩ := h_r2_q62208
      have l_m1 := il_m1
      refine wq_eq (fun hc_62209 => ?_) (fun hc_62210 => ?_)
      · have l_1 := il_1
        have t_62212 := ia_add y6_5 (1 : Int32) (by omega) (by omega)
        refine wq_v (fun v3_q62211 h_v3_q62211 => ?_)
        have t_v3_q62211 := congrArg Int32.toInt h_v3_q62211
        have b_62213 := i32b y6_4
        exact ih y6_4 v3_q62211 ⟨by omega, by omega⟩ (by omega)
      · refine wq_eq (fun hc_62214 => ?_) (fun hc_62215 => ?_)
        · have l_1 := il_1
          have t_62217 := ia_add y6_5 (1 : Int32) (by omega) (by omega)
          refine wq_v (fun v10_q62216 h_v10_q62216 => ?_)
          have t_v10_q62216 := congrArg Int32.toInt h_v10_q62216
          have b_62218 := i32b y6_4
          exact ih y6_4 v10_q62216 ⟨by omega, by omega⟩ (by omega)
        · refine wq_b (tt_fX12_costOf hN I0 L0 M0 r1_q62207 r2_q62208 ⟨by omega, by omega⟩ k_I0) (fun r4_q62219 h_r4_q62219 => ?_)
          obtain ⟨h_r4_q62219_0, -⟩ := h_r4_q62219
          have l_1 := il_1
          refine wq_le (fun hc_62220 => ?_) (fun hc_62221 => ?_)
          · have b_62223 := i32b y6_4
            refine wq_v (fun v5_q62222 h_v5_q62222 => ?_)
            have t_v5_q62222 := congrArg Int32.toInt h_v5_q62222
            have t_62225 := ia_add y6_5 (1 : Int32) (by omega) (by omega)
            refine wq_v (fun v6_q62224 h_v6_q62224 => ?_)
            have t_v6_q62224 := congrArg Int32.toInt h_v6_q62224
            have b_62226 := i32b v5_q62222
            exact ih v5_q62222 v6_q62224 ⟨by omega, by omega⟩ (by omega)
          · refine wq_b (tt_fX12_costOf hN I0 L0 M0 r2_q62208 r1_q62207 ⟨by omega, by omega⟩ k_I0) (fun r7_q62227 h_r7_q62227 => ?_)
            obtain ⟨h_r7_q62227_0, -⟩ := h_r7_q62227
            refine wq_le (fun hc_62228 => ?_) (fun hc_62229 => ?_)
            · have b_62231 := i32b y6_4
              refine wq_v (fun v8_q62230 h_v8_q62230 => ?_)
              have t_v8_q62230 := congrArg Int32.toInt h_v8_q62230
              have t_62233 := ia_add y6_5 (1 : Int32) (by omega) (by omega)
              refine wq_v (fun v9_q62232 h_v9_q62232 => ?_)
              have t_v9_q62232 := congrArg Int32.toInt h_v9_q62232
              have b_62234 := i32b v8_q62230
              exact ih v8_q62230 v9_q62232 ⟨by omega, by omega⟩ (by omega)
            · have l_0 := il_0
              exact wq_s ⟨(show 0 ≤ (0 : Int32).toInt ∧ (0 : Int32).toInt ≤ 1 from ⟨by omega, by omega⟩), trivial⟩
set_option maxHeartbeats 4000000 in
theorem tt_fX12_areSame {N : Nat} (hN : 3000000000 ≤ N) (I0 : Nat → Int32) (L0 : Int64) (M0 : Nat → Nat → Int32) (x1 : Int32) (x2 : Int32) (x3 : Int32) (h_x1 : 0 ≤ x1.toInt ∧ x1.toInt ≤ 119) (h_x2 : 0 ≤ x2.toInt ∧ x2.toInt ≤ 119) (k_I0 : KX12 I0 M0) : wq (fX12_areSame N I0 L0 M0 x1 x2 x3) (fun r => (0 ≤ r.toInt ∧ r.toInt ≤ 1) ∧ True) := by
  unfold fX12_areSame
  have b_62235 := i32b x3
  have l_0 := il_0
  exact tt_fX12_areSame_L6 hN I0 L0 M0 x1 x2 x3 ⟨by omega, by omega⟩ ⟨by omega, by omega⟩ k_I0 N (0 : Int32) (0 : Int32) ⟨by omega, by omega⟩ (by omega)
set_option maxHeartbeats 4000000 in
theorem tt_fX12_isNumber {N : Nat} (hN : 3000000000 ≤ N) (I0 : Nat → Int32) (L0 : Int64) (M0 : Nat → Nat → Int32) (x1 : Int32) (k_I0 : KX12 I0 M0) : wq (fX12_isNumber N I0 L0 M0 x1) (fun r => (r.1.toInt = 0 ∨ (r.1.toInt = 1 ∧ 0 ≤ x1.toInt ∧ x1.toInt ≤ 119)) ∧ (r.2.1 1).toInt = (I0 1).toInt ∧ (0 ≤ r.1.toInt ∧ r.1.toInt ≤ 1) ∧ KX12 r.2.1 r.2.2.2 ∧ True) := by
  unfold fX12_isNumber
  have b_62320 := i32b x1
  have l_0 := il_0
  refine wq_lt (fun hc_62321 => ?_) (fun hc_62322 => ?_)
  · have l_1 := il_1
    refine wq_b (tt_fX12_right hN I0 L0 M0 (0 : Int32) (1 : Int32) ⟨by omega, by omega⟩ k_I0) (fun r1_q62323 h_r1_q62323 => ?_)
    obtain ⟨h_r1_q62323_0, h_r1_q62323_1, h_r1_q62323_2, h_r1_q62323_3, -⟩ := h_r1_q62323
    have t_62324 := KX12.i1 h_r1_q62323_3
    have t_62325 := KX12.i1 k_I0
    refine wq_bz (by omega) ?_
    exact wq_s ⟨(show (r1_q62323.1.toInt = 0 ∨ (r1_q62323.1.toInt = 1 ∧ 0 ≤ x1.toInt ∧ x1.toInt ≤ 119)) from by omega), (show (r1_q62323.2.1 1).toInt = (I0 1).toInt from by omega), (show 0 ≤ r1_q62323.1.toInt ∧ r1_q62323.1.toInt ≤ 1 from ⟨by omega, by omega⟩), h_r1_q62323_3, trivial⟩
  · have l_120 := il_120
    refine wq_le (fun hc_62326 => ?_) (fun hc_62327 => ?_)
    · have l_1 := il_1
      refine wq_b (tt_fX12_right hN I0 L0 M0 (0 : Int32) (1 : Int32) ⟨by omega, by omega⟩ k_I0) (fun r2_q62328 h_r2_q62328 => ?_)
      obtain ⟨h_r2_q62328_0, h_r2_q62328_1, h_r2_q62328_2, h_r2_q62328_3, -⟩ := h_r2_q62328
      have t_62329 := KX12.i1 h_r2_q62328_3
      have t_62330 := KX12.i1 k_I0
      refine wq_bz (by omega) ?_
      exact wq_s ⟨(show (r2_q62328.1.toInt = 0 ∨ (r2_q62328.1.toInt = 1 ∧ 0 ≤ x1.toInt ∧ x1.toInt ≤ 119)) from by omega), (show (r2_q62328.2.1 1).toInt = (I0 1).toInt from by omega), (show 0 ≤ r2_q62328.1.toInt ∧ r2_q62328.1.toInt ≤ 1 from ⟨by omega, by omega⟩), h_r2_q62328_3, trivial⟩
    · have l_1 := il_1
      refine wq_b (tt_fX12_right hN I0 L0 M0 (1 : Int32) (1 : Int32) ⟨by omega, by omega⟩ k_I0) (fun r3_q62331 h_r3_q62331 => ?_)
      obtain ⟨h_r3_q62331_0, h_r3_q62331_1, h_r3_q62331_2, h_r3_q62331_3, -⟩ := h_r3_q62331
      have t_62332 := KX12.i1 h_r3_q62331_3
      have t_62333 := KX12.i1 k_I0
      refine wq_bz (by omega) ?_
      exact wq_s ⟨(show (r3_q62331.1.toInt = 0 ∨ (r3_q62331.1.toInt = 1 ∧ 0 ≤ x1.toInt ∧ x1.toInt ≤ 119)) from by omega), (show (r3_q62331.2.1 1).toInt = (I0 1).toInt from by omega), (show 0 ≤ r3_q62331.1.toInt ∧ r3_q62331.1.toInt ≤ 1 from ⟨by omega, by omega⟩), h_r3_q62331_3, trivial⟩
set_option maxHeartbeats 4000000 in
theorem tt_fX12_same {N : Nat} (hN : 3000000000 ≤ N) (I0 : Nat → Int32) (L0 : Int64) (M0 : Nat → Nat → Int32) (x1 : Int32) (x2 : Int32) (x3 : Int32) (k_I0 : KX12 I0 M0) : wq (fX12_same N I0 L0 M0 x1 x2 x3) (fun r => (0 ≤ r.1.toInt ∧ r.1.toInt ≤ 1) ∧ KX12 r.2.1 r.2.2.2 ∧ True) := by
  unfold fX12_same
  refine wq_v (fun I0_1_q62454 h_I0_1_q62454 => ?_)
  have k_I0_1_q62454 : KX12 I0_1_q62454 M0 := by rw [h_I0_1_q62454]; exact KX12.si0 k_I0
  have b_62455 := i32b x3
  have l_1 := il_1
  have l_7 := il_7
  refine wq_b (tt_fX12_within hN x3 (1 : Int32) (7 : Int32)) (fun r2_q62456 h_r2_q62456 => ?_)
  obtain ⟨h_r2_q62456_0, h_r2_q62456_1, -⟩ := h_r2_q62456
  refine wq_b (tt_fX12_right hN I0_1_q62454 L0 M0 r2_q62456 (1 : Int32) ⟨by omega, by omega⟩ k_I0_1_q62454) (fun r3_q62457 h_r3_q62457 => ?_)
  obtain ⟨h_r3_q62457_0, h_r3_q62457_1, h_r3_q62457_2, h_r3_q62457_3, -⟩ := h_r3_q62457
  have t_62458 := KX12.i1 h_r3_q62457_3
  have t_62459 := KX12.i1 k_I0
  have t_62460 : (I0_1_q62454 1).toInt = (I0 1).toInt := by rw [h_I0_1_q62454]; rfl
  have l_0 := il_0
  refine wq_eq (fun hc_62461 => ?_) (fun hc_62462 => ?_)
  · exact wq_s ⟨(show 0 ≤ (0 : Int32).toInt ∧ (0 : Int32).toInt ≤ 1 from ⟨by omega, by omega⟩), h_r3_q62457_3, trivial⟩
  · have b_62463 := i32b x1
    refine wq_b (tt_fX12_isNumber hN r3_q62457.2.1 r3_q62457.2.2.1 r3_q62457.2.2.2 x1 h_r3_q62457_3) (fun r4_q62464 h_r4_q62464 => ?_)
    obtain ⟨h_r4_q62464_0, h_r4_q62464_1, h_r4_q62464_2, h_r4_q62464_3, -⟩ := h_r4_q62464
    have t_62465 := KX12.i1 h_r4_q62464_3
    refine wq_eq (fun hc_62466 => ?_) (fun hc_62467 => ?_)
    · exact wq_s ⟨(show 0 ≤ (0 : Int32).toInt ∧ (0 : Int32).toInt ≤ 1 from ⟨by omega, by omega⟩), h_r4_q62464_3, trivial⟩
    · have b_62468 := i32b x2
      refine wq_b (tt_fX12_isNumber hN r4_q62464.2.1 r4_q62464.2.2.1 r4_q62464.2.2.2 x2 h_r4_q62464_3) (fun r5_q62469 h_r5_q62469 => ?_)
      obtain ⟨h_r5_q62469_0, h_r5_q62469_1, h_r5_q62469_2, h_r5_q62469_3, -⟩ := h_r5_q62469
      have t_62470 := KX12.i1 h_r5_q62469_3
      refine wq_eq (fun hc_62471 => ?_) (fun hc_62472 => ?_)
      · exact wq_s ⟨(show 0 ≤ (0 : Int32).toInt ∧ (0 : Int32).toInt ≤ 1 from ⟨by omega, by omega⟩), h_r5_q62469_3, trivial⟩
      · refine wq_b (tt_fX12_areSame hN r5_q62469.2.1 r5_q62469.2.2.1 r5_q62469.2.2.2 x1 x2 x3 ⟨by omega, by omega⟩ ⟨by omega, by omega⟩ h_r5_q62469_3) (fun r6_q62473 h_r6_q62473 => ?_)
        obtain ⟨h_r6_q62473_0, -⟩ := h_r6_q62473
        refine wq_bz (by omega) ?_
        exact wq_s ⟨(show 0 ≤ r6_q62473.toInt ∧ r6_q62473.toInt ≤ 1 from ⟨by omega, by omega⟩), h_r5_q62469_3, trivial⟩
def PS (f : Nat → Int32) : Prop := ∀ j : Nat, j < 120 → 0 ≤ (f j).toInt ∧ (f j).toInt ≤ 119
theorem PS.um {f : Nat → Int32} (h : PS f) {i : Nat} {v : Int32} (hv : 0 ≤ v.toInt ∧ v.toInt ≤ 119) : PS (upd f i v) := by
  intro j hj
  unfold upd
  by_cases q : j = i
  · rw [if_pos q]; exact hv
  · rw [if_neg q]; exact h j hj
theorem sm_ud (f : Nat → Int32) (i : Nat) (v : Int32) : ∀ n : Nat, i < n → sm (upd f i v) 0 n = sm f 0 n - (f i).toInt + v.toInt := by
  intro n
  induction n with
  | zero => intro h; exact absurd h (by omega)
  | succ n ih =>
    intro h
    show sm (upd f i v) 0 n + (upd f i v (0 + n)).toInt = sm f 0 n + (f (0 + n)).toInt - (f i).toInt + v.toInt
    rw [Nat.zero_add]
    by_cases q : i = n
    · subst q
      rw [sm_up f 0 i v i (fun w hw => by omega)]
      have e : upd f i v i = v := if_pos rfl
      rw [e]; omega
    · have e : upd f i v n = f n := if_neg (fun z => q z.symm)
      rw [ih (by omega), e]; omega
theorem sm_nng (f : Nat → Int32) (h : PS f) : ∀ n : Nat, n ≤ 120 → 0 ≤ sm f 0 n ∧ sm f 0 n ≤ 119 * n := by
  intro n
  induction n with
  | zero => intro _; exact ⟨Int.le_refl _, Int.le_refl _⟩
  | succ n ih =>
    intro hn
    have a := ih (by omega)
    have b := h n (by omega)
    show 0 ≤ sm f 0 n + (f (0 + n)).toInt ∧ sm f 0 n + (f (0 + n)).toInt ≤ _
    rw [Nat.zero_add]
    omega
theorem bi_sum {f : Nat → Int32} {a b : Nat} (hab : b < a) (ha : a < 120) (z : Int32) : sm (upd (upd f a z) b z) 0 120 = sm f 0 120 - (f a).toInt - (f b).toInt + 2 * z.toInt := by
  rw [sm_ud _ b z 120 (by omega), sm_ud f a z 120 ha]
  have e : upd f a z b = f b := if_neg (by omega)
  rw [e]; omega
theorem tt_bi211 {N : Nat} (hN : 3000000000 ≤ N) (x1 x2 : Int32) (g43 g64 : (Nat → Int32) → Int64 → (Nat → Nat → Int32) → Int32 → Option (Int32 × (Nat → Int32) × Int64 × (Nat → Nat → Int32))) : ∀ (fu : Nat) (I : Nat → Int32) (L : Int64) (M : Nat → Nat → Int32) (y4 y5 : Int32), KX12 I M → (0 ≤ y5.toInt ∧ y5.toInt ≤ 120) → 120 - y5.toInt < (fu : Int) → wq (fX12_births_L211 N x1 x2 g43 g64 fu I L M y4 y5) (fun r => KX12 r.2.1 r.2.2.2 ∧ True) := by
  intro fu
  induction fu with
  | zero => intro I L M y4 y5 k hy hm; exfalso; omega
  | succ fu ih =>
    intro I L M y4 y5 k hy hm
    rw [fX12_births_L211.eq_2]
    have l_120 := il_120
    have l_1 := il_1
    refine wq_le (fun hc => wq_s ⟨k, trivial⟩) (fun hc => ?_)
    have t5 := ia_add y5 (1 : Int32) (by omega) (by omega)
    refine wq_in (n := 120) ⟨by omega, by omega⟩ ?_
    have nx : ∀ w v : Int32, v = y5 + (1 : Int32) → wq (fX12_births_L211 N x1 x2 g43 g64 fu I L M w v) (fun r => KX12 r.2.1 r.2.2.2 ∧ True) := by
      intro w v e
      have t6 := congrArg Int32.toInt e
      exact ih I L M w v k ⟨by omega, by omega⟩ (by omega)
    refine wq_i (fun hc2 => ?_) (fun hc2 => wq_v (fun w _ => wq_v (fun v e => nx w v e)))
    refine wq_b (tt_fX12_tells hN I L M y5 ⟨by omega, by omega⟩ k) (fun r _ => ?_)
    exact wq_i (fun _ => wq_v (fun w _ => wq_v (fun v e => nx w v e))) (fun _ => wq_v (fun w _ => wq_v (fun v e => nx w v e)))
theorem tt_bi156 {N : Nat} (x1 x2 a : Int32) (ha : 0 ≤ a.toInt ∧ a.toInt ≤ 119) (g43 g64 : (Nat → Int32) → Int64 → (Nat → Nat → Int32) → Int32 → Option (Int32 × (Nat → Int32) × Int64 × (Nat → Nat → Int32))) (g73 g83 : (Nat → Int32) → Int64 → (Nat → Nat → Int32) → Int32 → Int32 → Option (Int32 × (Nat → Int32) × Int64 × (Nat → Nat → Int32))) (Q : Int32 × (Nat → Int32) × Int64 × (Nat → Nat → Int32) → Prop) (I : Nat → Int32) (L : Int64) (M : Nat → Nat → Int32) (b z : Int32) (k : KX12 I M) (p : PS (M 31)) (hb : 0 ≤ b.toInt ∧ b.toInt < a.toInt) (hz : 0 ≤ z.toInt ∧ z.toInt ≤ 119) (hs : 2 * z.toInt < (M 31 a.toNatClampNeg).toInt + (M 31 b.toNatClampNeg).toInt) (hg : ∀ (m : Nat → Nat → Int32) (v : Int32), KX12 I m → PS (m 31) → sm (m 31) 0 120 + 1 ≤ sm (M 31) 0 120 → v = b + (1 : Int32) → wq (g83 I L m (1 : Int32) v) Q) : wq (fX12_births_J156 N x1 x2 a g43 g64 g73 g83 I L M b z) Q := by
  unfold fX12_births_J156
  refine wq_in (n := 120) ⟨by omega, by omega⟩ ?_
  refine wq_v (fun M1 e1 => ?_)
  refine wq_in (n := 120) ⟨by omega, by omega⟩ ?_
  refine wq_v (fun M2 e2 => ?_)
  refine wq_v (fun v e => ?_)
  have ca := tn_of a (by omega)
  have cb := tn_of b (by omega)
  have e31 : M2 31 = upd (upd (M 31) a.toNatClampNeg z) b.toNatClampNeg z := by rw [e2, e1]; rfl
  refine hg M2 v (by rw [e2, e1]; exact KX12.sm31 (KX12.sm31 k)) (by rw [e31]; exact PS.um (PS.um p hz) hz) ?_ e
  rw [e31, bi_sum (by omega) (by omega) z]
  omega
theorem tt_bi83 {N : Nat} (hN : 3000000000 ≤ N) (x1 x2 a : Int32) (ha : 0 ≤ a.toInt ∧ a.toInt ≤ 119) (g43 g64 : (Nat → Int32) → Int64 → (Nat → Nat → Int32) → Int32 → Option (Int32 × (Nat → Int32) × Int64 × (Nat → Nat → Int32))) (g73 : (Nat → Int32) → Int64 → (Nat → Nat → Int32) → Int32 → Int32 → Option (Int32 × (Nat → Int32) × Int64 × (Nat → Nat → Int32))) (S0 : Int) (Q : Int32 × (Nat → Int32) × Int64 × (Nat → Nat → Int32) → Prop) (hg : ∀ (I : Nat → Int32) (L : Int64) (M : Nat → Nat → Int32) (y v : Int32), KX12 I M → PS (M 31) → (0 ≤ y.toInt ∧ y.toInt ≤ 1) → sm (M 31) 0 120 + y.toInt ≤ S0 → v.toInt = a.toInt + 1 → wq (g73 I L M y v) Q) : ∀ (fu : Nat) (I : Nat → Int32) (L : Int64) (M : Nat → Nat → Int32) (y b : Int32), KX12 I M → PS (M 31) → (0 ≤ y.toInt ∧ y.toInt ≤ 1) → sm (M 31) 0 120 + y.toInt ≤ S0 → (0 ≤ b.toInt ∧ b.toInt ≤ a.toInt) → a.toInt - b.toInt < (fu : Int) → wq (fX12_births_L83 N x1 x2 a g43 g64 g73 fu I L M y b) Q := by
  intro fu
  induction fu with
  | zero => intro I L M y b k p hy hs hb hm; exfalso; omega
  | succ fu ih =>
    intro I L M y b k p hy hs hb hm
    rw [fX12_births_L83.eq_2]
    have l_1 := il_1
    have ta := ia_add a (1 : Int32) (by omega) (by omega)
    have tb := ia_add b (1 : Int32) (by omega) (by omega)
    refine wq_le (fun hc => wq_v (fun v e => hg I L M y v k p hy hs (by rw [e]; omega))) (fun hc => ?_)
    have nx : ∀ v : Int32, v = b + (1 : Int32) → wq (fX12_births_L83 N x1 x2 a g43 g64 g73 fu I L M y v) Q := by
      intro v e
      have t6 := congrArg Int32.toInt e
      exact ih I L M y v k p hy hs ⟨by omega, by omega⟩ (by omega)
    refine wq_in (n := 120) ⟨by omega, by omega⟩ ?_
    refine wq_in (n := 120) ⟨by omega, by omega⟩ ?_
    refine wq_eq (fun hc2 => wq_v (fun v e => nx v e)) (fun hc2 => ?_)
    refine wq_b (tt_fX12_areSame hN I L M a b x2 ha ⟨by omega, by omega⟩ k) (fun r _ => ?_)
    refine wq_i (fun hc3 => wq_v (fun v e => nx v e)) (fun hc3 => ?_)
    refine wq_in (n := 120) ⟨by omega, by omega⟩ ?_
    refine wq_in (n := 120) ⟨by omega, by omega⟩ ?_
    have ca := tn_of a (by omega)
    have cb := tn_of b (by omega)
    have pa := p a.toNatClampNeg (by omega)
    have pb := p b.toNatClampNeg (by omega)
    have jn : ∀ (m : Nat → Nat → Int32) (v : Int32), KX12 I m → PS (m 31) → sm (m 31) 0 120 + 1 ≤ sm (M 31) 0 120 → v = b + (1 : Int32) → wq (fX12_births_L83 N x1 x2 a g43 g64 g73 fu I L m (1 : Int32) v) Q := by
      intro m v km pm sm1 e
      have t6 := congrArg Int32.toInt e
      exact ih I L m (1 : Int32) v km pm ⟨by decide, by decide⟩ (by omega) ⟨by omega, by omega⟩ (by omega)
    refine wq_le (fun hc4 => ?_) (fun hc4 => ?_)
    · refine wq_in (n := 120) ⟨by omega, by omega⟩ ?_
      exact tt_bi156 x1 x2 a ha g43 g64 g73 _ Q I L M b _ k p ⟨by omega, by omega⟩ pb (by omega) jn
    · refine wq_in (n := 120) ⟨by omega, by omega⟩ ?_
      exact tt_bi156 x1 x2 a ha g43 g64 g73 _ Q I L M b _ k p ⟨by omega, by omega⟩ pa (by omega) jn

set_option maxHeartbeats 4000000 in
theorem tt_fX12_handed {N : Nat} (hN : 3000000000 ≤ N) (I0 : Nat → Int32) (L0 : Int64) (M0 : Nat → Nat → Int32) (x1 : Int32) (x2 : Int32) (x3 : Int32) (k_I0 : KX12 I0 M0) : wq (fX12_handed N I0 L0 M0 x1 x2 x3) (fun r => KX12 r.2.1 r.2.2.2 ∧ True) := by
  unfold fX12_handed
  refine wq_v (fun I0_1_q60108 h_I0_1_q60108 => ?_)
  have k_I0_1_q60108 : KX12 I0_1_q60108 M0 := by rw [h_I0_1_q60108]; exact KX12.si0 k_I0
  have b_60109 := i32b x1
  refine wq_b (tt_fX12_isBook hN I0_1_q60108 L0 M0 x1 k_I0_1_q60108) (fun r2_q60110 h_r2_q60110 => ?_)
  obtain ⟨h_r2_q60110_0, h_r2_q60110_1, h_r2_q60110_2, h_r2_q60110_3, -⟩ := h_r2_q60110
  have t_60111 := KX12.i1 h_r2_q60110_3
  have t_60112 := KX12.i1 k_I0
  have t_60113 : (I0_1_q60108 1).toInt = (I0 1).toInt := by rw [h_I0_1_q60108]; rfl
  have l_0 := il_0
  refine wq_eq (fun hc_60114 => ?_) (fun hc_60115 => ?_)
  · exact wq_s ⟨h_r2_q60110_3, trivial⟩
  · have b_60116 := i32b x2
    refine wq_b (tt_fX12_isBook hN r2_q60110.2.1 r2_q60110.2.2.1 r2_q60110.2.2.2 x2 h_r2_q60110_3) (fun r3_q60117 h_r3_q60117 => ?_)
    obtain ⟨h_r3_q60117_0, h_r3_q60117_1, h_r3_q60117_2, h_r3_q60117_3, -⟩ := h_r3_q60117
    have t_60118 := KX12.i1 h_r3_q60117_3
    refine wq_eq (fun hc_60119 => ?_) (fun hc_60120 => ?_)
    · exact wq_s ⟨h_r3_q60117_3, trivial⟩
    · have b_60121 := i32b x3
      refine wq_b (tt_fX12_isBook hN r3_q60117.2.1 r3_q60117.2.2.1 r3_q60117.2.2.2 x3 h_r3_q60117_3) (fun r4_q60122 h_r4_q60122 => ?_)
      obtain ⟨h_r4_q60122_0, h_r4_q60122_1, h_r4_q60122_2, h_r4_q60122_3, -⟩ := h_r4_q60122
      have t_60123 := KX12.i1 h_r4_q60122_3
      refine wq_eq (fun hc_60124 => ?_) (fun hc_60125 => ?_)
      · exact wq_s ⟨h_r4_q60122_3, trivial⟩
      · exact tt_fX12_handed_L37 hN x1 x2 x3 ⟨by omega, by omega⟩ ⟨by omega, by omega⟩ ⟨by omega, by omega⟩ N r4_q60122.2.1 r4_q60122.2.2.1 r4_q60122.2.2.2 (0 : Int32) (0 : Int32) ⟨by omega, by omega⟩ h_r4_q60122_3 (by omega)
set_option maxHeartbeats 4000000 in
theorem tt_fX12_leafAt_L2 {N : Nat} (hN : 3000000000 ≤ N) (I0 : Nat → Int32) (L0 : Int64) (M0 : Nat → Nat → Int32) (x1 : Int32) (x2 : Int32) (h_x1 : 0 ≤ x1.toInt ∧ x1.toInt ≤ 5) (k_I0 : KX12 I0 M0)  : ∀ (fu : Nat) (y2_3 : Int32), (0 ≤ y2_3.toInt ∧ y2_3.toInt ≤ 20) → (20 - y2_3.toInt) < (fu : Int) → wq (fX12_leafAt_L2 N I0 L0 M0 x1 x2 fu y2_3) (fun r => (-1 ≤ r.toInt ∧ r.toInt ≤ 19) ∧ True) := by
  intro fu
  induction fu with
  | zero => intro y2_3 h_y2_3 hm; exfalso; omega
  | succ fu ih =>
    intro y2_3 h_y2_3 hm
    rw [fX12_leafAt_L2.eq_2]
    refine wq_in (n := 6) ⟨by omega, by omega⟩ ?_
    have t_60258 := KX12.m27 k_I0 x1.toNatClampNeg
    refine wq_le (fun hc_60259 => ?_) (fun hc_60260 => ?_)
    · have l_m1 := il_m1
      exact wq_s ⟨(show -1 ≤ (-1 : Int32).toInt ∧ (-1 : Int32).toInt ≤ 19 from ⟨by omega, by omega⟩), trivial⟩
    · have l_20 := il_20
      have t_60261 := ia_mul (20 : Int32) (20) il_20 x1 (by omega) (by omega)
      have t_60262 := ia_add ((20 : Int32) * x1) y2_3 (by omega) (by omega)
      refine wq_in (n := 120) ⟨by omega, by omega⟩ ?_
      have b_60263 := i32b x2
      refine wq_eq (fun hc_60264 => ?_) (fun hc_60265 => ?_)
      · exact wq_s ⟨(show -1 ≤ y2_3.toInt ∧ y2_3.toInt ≤ 19 from ⟨by omega, by omega⟩), trivial⟩
      · have l_1 := il_1
        have t_60267 := ia_add y2_3 (1 : Int32) (by omega) (by omega)
        refine wq_v (fun v1_q60266 h_v1_q60266 => ?_)
        have t_v1_q60266 := congrArg Int32.toInt h_v1_q60266
        exact ih v1_q60266 ⟨by omega, by omega⟩ (by omega)
set_option maxHeartbeats 4000000 in
theorem tt_fX12_leafAt {N : Nat} (hN : 3000000000 ≤ N) (I0 : Nat → Int32) (L0 : Int64) (M0 : Nat → Nat → Int32) (x1 : Int32) (x2 : Int32) (h_x1 : 0 ≤ x1.toInt ∧ x1.toInt ≤ 5) (k_I0 : KX12 I0 M0) : wq (fX12_leafAt N I0 L0 M0 x1 x2) (fun r => (-1 ≤ r.toInt ∧ r.toInt ≤ 19) ∧ True) := by
  unfold fX12_leafAt
  have b_60268 := i32b x2
  have l_0 := il_0
  exact tt_fX12_leafAt_L2 hN I0 L0 M0 x1 x2 ⟨by omega, by omega⟩ k_I0 N (0 : Int32) ⟨by omega, by omega⟩ (by omega)
theorem ph_all : ∀ (n : Nat) (f : Nat → Nat), (∀ i : Nat, i ≤ n → f i < n) → ∃ i j : Nat, i < j ∧ j ≤ n ∧ f i = f j := by
  intro n
  induction n with
  | zero => intro f h; exact absurd (h 0 (Nat.le_refl 0)) (by omega)
  | succ n ih =>
    intro f h
    by_cases q : ∃ i : Nat, i ≤ n ∧ f i = f (n + 1)
    · obtain ⟨i, hi, e⟩ := q
      exact ⟨i, n + 1, by omega, Nat.le_refl _, e⟩
    · have q2 : ∀ i : Nat, i ≤ n → f i ≠ f (n + 1) := fun i hi e => q ⟨i, hi, e⟩
      obtain ⟨i, j, h1, h2, h3⟩ := ih (fun i => if f i = n then f (n + 1) else f i) (fun i hi => by
        have a := h i (by omega)
        have b := h (n + 1) (Nat.le_refl _)
        have c := q2 i hi
        show (if f i = n then f (n + 1) else f i) < n
        by_cases z : f i = n
        · rw [if_pos z]; omega
        · rw [if_neg z]; omega)
      refine ⟨i, j, h1, by omega, ?_⟩
      have c1 := q2 i (by omega)
      have c2 := q2 j h2
      have h3 : (if f i = n then f (n + 1) else f i) = (if f j = n then f (n + 1) else f j) := h3
      by_cases z1 : f i = n
      · by_cases z2 : f j = n
        · omega
        · rw [if_pos z1, if_neg z2] at h3; omega
      · by_cases z2 : f j = n
        · rw [if_neg z1, if_pos z2] at h3; omega
        · rw [if_neg z1, if_neg z2] at h3; exact h3
theorem lv_room9 {m f : Nat → Int32} (h : LV m f) {b : Nat} {w : Int32} (hb : b < 6) (hw : 0 ≤ w.toInt ∧ w.toInt ≤ 19) (hn : ∀ i : Nat, (i : Int) < (m b).toInt → f (20 * b + i) ≠ w) : (m b).toInt ≤ 19 := by
  rcases Int.lt_or_le 19 (m b).toInt with q | q
  · exfalso
    obtain ⟨i, j, h1, h2, h3⟩ := ph_all 20 (fun i => if i < 20 then (f (20 * b + i)).toInt.toNat else w.toInt.toNat) (fun i hi => by
      show (if i < 20 then (f (20 * b + i)).toInt.toNat else w.toInt.toNat) < 20
      have a := h.1 (20 * b + i)
      by_cases z : i < 20
      · rw [if_pos z]; omega
      · rw [if_neg z]; omega)
    have i20 : i < 20 := by omega
    have h3 : (if i < 20 then (f (20 * b + i)).toInt.toNat else w.toInt.toNat) = (if j < 20 then (f (20 * b + j)).toInt.toNat else w.toInt.toNat) := h3
    rw [if_pos i20] at h3
    have a := h.1 (20 * b + i)
    have a2 := h.1 (20 * b + j)
    by_cases z : j < 20
    · rw [if_pos z] at h3
      exact h.2 b i j hb h1 (by omega) (Int32.toInt_inj.mp (by omega))
    · rw [if_neg z] at h3
      exact hn i (by omega) (Int32.toInt_inj.mp (by omega))
  · exact q
theorem LV.add {m f : Nat → Int32} (h : LV m f) {b : Nat} {w : Int32} (hm : ∀ b : Nat, 0 ≤ (m b).toInt ∧ (m b).toInt ≤ 20) (hc : (m b).toInt ≤ 19) (hw : 0 ≤ w.toInt ∧ w.toInt ≤ 19) (hn : ∀ i : Nat, (i : Int) < (m b).toInt → f (20 * b + i) ≠ w) {v : Int32} (hv : v.toInt = (m b).toInt + 1) {j : Nat} (hj : (j : Int) = 20 * b + (m b).toInt) : LV (upd m b v) (upd f j w) := by
  refine ⟨ar_upd h.1 hw, fun b2 i j2 hb2 hij hj2 => ?_⟩
  have m2 := hm b2
  have mb := hm b
  by_cases q : b2 = b
  · subst q
    have e : upd m b2 v b2 = v := if_pos rfl
    rw [e, hv] at hj2
    have n1 : ¬ (20 * b2 + i = j) := by omega
    have e1 : upd f j w (20 * b2 + i) = f (20 * b2 + i) := if_neg n1
    rw [e1]
    by_cases z : 20 * b2 + j2 = j
    · have e2 : upd f j w (20 * b2 + j2) = w := if_pos z
      rw [e2]
      exact hn i (by omega)
    · have e2 : upd f j w (20 * b2 + j2) = f (20 * b2 + j2) := if_neg z
      rw [e2]
      exact h.2 b2 i j2 hb2 hij (by omega)
  · have e : upd m b v b2 = m b2 := if_neg q
    rw [e] at hj2
    have n1 : ¬ (20 * b2 + i = j) := by omega
    have n2 : ¬ (20 * b2 + j2 = j) := by omega
    have e1 : upd f j w (20 * b2 + i) = f (20 * b2 + i) := if_neg n1
    have e2 : upd f j w (20 * b2 + j2) = f (20 * b2 + j2) := if_neg n2
    rw [e1, e2]
    exact h.2 b2 i j2 hb2 hij hj2
theorem KX12.leafy {I : Nat → Int32} {M : Nat → Nat → Int32} (k : KX12 I M) {b j : Nat} {v w : Int32} (hv : 0 ≤ v.toInt ∧ v.toInt ≤ 20) (hl : LV (upd (M 27) b v) (upd (M 28) j w)) : KX12 I (wb_um (wb_um M 28 j w) 27 b v) := ⟨k.i1, k.i2, k.i3, k.i6, k.i7, k.i12, k.i13, k.i14, k.i16, k.i17, k.i18, k.i19, k.m7, k.m12, k.m16, k.m23, k.m24, ar_upd k.m27 hv, k.m35, k.m36, k.er1, k.er2, k.een, k.edn, hl, k.ese, k.esi, k.epd, trivial⟩
theorem tu_leafAt_L2 {N : Nat} (I : Nat → Int32) (L : Int64) (M : Nat → Nat → Int32) (x1 x2 : Int32) (h1 : 0 ≤ x1.toInt ∧ x1.toInt ≤ 5) (k : KX12 I M) : ∀ (fu : Nat) (y : Int32), (0 ≤ y.toInt ∧ y.toInt ≤ 20) → (∀ i : Nat, (i : Int) < y.toInt → M 28 (20 * x1.toNatClampNeg + i) ≠ x2) → 20 - y.toInt < (fu : Int) → wq (fX12_leafAt_L2 N I L M x1 x2 fu y) (fun r => r.toInt = -1 → ∀ i : Nat, (i : Int) < (M 27 x1.toNatClampNeg).toInt → M 28 (20 * x1.toNatClampNeg + i) ≠ x2) := by
  intro fu
  induction fu with
  | zero => intro y hy _ hm; exfalso; omega
  | succ fu ih =>
    intro y hy hq hm
    rw [fX12_leafAt_L2.eq_2]
    have l_20 := il_20
    have l_1 := il_1
    have c := tn_of x1 (by omega)
    have m27 := k.m27 x1.toNatClampNeg
    refine wq_in (n := 6) ⟨by omega, by omega⟩ ?_
    refine wq_le (fun hc => wq_s (fun _ i hi => hq i (by omega))) (fun hc => ?_)
    have t1 := ia_mul (20 : Int32) 20 il_20 x1 (by omega) (by omega)
    have t2 := ia_add ((20 : Int32) * x1) y (by omega) (by omega)
    have c2 := tn_of ((20 : Int32) * x1 + y) (by omega)
    refine wq_in (n := 120) ⟨by omega, by omega⟩ ?_
    refine wq_i (fun hc2 => wq_s (fun e => by omega)) (fun hc2 => ?_)
    have t5 := ia_add y (1 : Int32) (by omega) (by omega)
    refine wq_v (fun v e => ?_)
    have t6 := congrArg Int32.toInt e
    refine ih v ⟨by omega, by omega⟩ (fun i hi => ?_) (by omega)
    by_cases z : (i : Int) < y.toInt
    · exact hq i z
    · have e9 : 20 * x1.toNatClampNeg + i = ((20 : Int32) * x1 + y).toNatClampNeg := by omega
      rw [e9]; exact hc2
theorem tt_fX12_leaf {N : Nat} (hN : 3000000000 ≤ N) (I0 : Nat → Int32) (L0 : Int64) (M0 : Nat → Nat → Int32) (x1 : Int32) (x2 : Int32) (k_I0 : KX12 I0 M0) : wq (fX12_leaf N I0 L0 M0 x1 x2) (fun r => KX12 r.2.1 r.2.2.2 ∧ True) := by
  unfold fX12_leaf
  refine wq_b (tt_fX12_isWheel hN I0 L0 M0 x1 x2 k_I0) (fun r hr => ?_)
  have l_0 := il_0
  have l_20 := il_20
  have l_1 := il_1
  obtain ⟨hr0, -, -, k, -⟩ := hr
  refine wq_eq (fun hc => wq_s ⟨k, trivial⟩) (fun hc => ?_)
  have h1 : 0 ≤ x1.toInt ∧ x1.toInt ≤ 5 := ⟨by omega, by omega⟩
  have h2 : 0 ≤ x2.toInt ∧ x2.toInt ≤ 19 := ⟨by omega, by omega⟩
  have hla : wq (fX12_leafAt N r.2.1 r.2.2.1 r.2.2.2 x1 x2) (fun q => q.toInt = -1 → ∀ i : Nat, (i : Int) < (r.2.2.2 27 x1.toNatClampNeg).toInt → r.2.2.2 28 (20 * x1.toNatClampNeg + i) ≠ x2) := by
    unfold fX12_leafAt
    exact tu_leafAt_L2 r.2.1 r.2.2.1 r.2.2.2 x1 x2 h1 k N (0 : Int32) ⟨by omega, by omega⟩ (fun i hi => by exfalso; omega) (by omega)
  refine wq_b hla (fun r2 h3 => ?_)
  refine wq_i (fun hc2 => ?_) (fun hc2 => wq_s ⟨k, trivial⟩)
  have e2 : r2.toInt = -1 := by rw [hc2]; decide
  have h4 := h3 e2
  have c := tn_of x1 (by omega)
  have m27 := k.m27 x1.toNatClampNeg
  have h19 := lv_room9 k.elv (b := x1.toNatClampNeg) (by omega) h2 h4
  have t1 := ia_mul (20 : Int32) 20 il_20 x1 (by omega) (by omega)
  have t2 := ia_add ((20 : Int32) * x1) (r.2.2.2 27 x1.toNatClampNeg) (by omega) (by omega)
  have t3 := ia_add (r.2.2.2 27 x1.toNatClampNeg) (1 : Int32) (by omega) (by omega)
  have c2 := tn_of ((20 : Int32) * x1 + r.2.2.2 27 x1.toNatClampNeg) (by omega)
  refine wq_in (n := 6) ⟨by omega, by omega⟩ ?_
  refine wq_in (n := 120) ⟨by omega, by omega⟩ ?_
  refine wq_v (fun M3 e3 => ?_)
  refine wq_in (n := 6) ⟨by omega, by omega⟩ ?_
  refine wq_in (n := 6) ⟨by omega, by omega⟩ ?_
  have e27 : M3 27 = r.2.2.2 27 := by rw [e3]; rfl
  refine wq_v (fun M4 e4 => ?_)
  refine wq_in (n := 6) ⟨by omega, by omega⟩ ?_
  refine wq_s ⟨?_, trivial⟩
  show KX12 r.2.1 M4
  rw [e4, e27, e3]
  exact KX12.leafy k ⟨by omega, by omega⟩ (LV.add k.elv k.m27 h19 h2 h4 (by omega) (by omega))
set_option maxHeartbeats 4000000 in
theorem tt_fX12_order_L135 {N : Nat} (hN : 3000000000 ≤ N) (x1 : Int32) (x2 : Int32) (x3 : Int32) (y117_5 : Int32) (y117_7 : Int32) (y51_4 : Int32) (g51 : (Nat → Int32) → Int64 → (Nat → Nat → Int32) → Int32 → Int32 → Option (Int32 × (Nat → Int32) × Int64 × (Nat → Nat → Int32))) (g117 : (Nat → Int32) → Int64 → (Nat → Nat → Int32) → Int32 → Int32 → Int32 → Option (Int32 × (Nat → Int32) × Int64 × (Nat → Nat → Int32))) (h_x1 : 0 ≤ x1.toInt ∧ x1.toInt ≤ 5) (h_x2 : 0 ≤ x2.toInt ∧ x2.toInt ≤ 5) (h_y117_5 : 0 ≤ y117_5.toInt ∧ y117_5.toInt ≤ 2147483647) (h_y117_7 : 0 ≤ y117_7.toInt ∧ y117_7.toInt ≤ 19) (h_y51_4 : 1 ≤ y51_4.toInt ∧ y51_4.toInt ≤ 20) (hg117 : ∀ (q0 : (Nat → Int32)) (q1 : Int64) (q2 : (Nat → Nat → Int32)) (q3 : Int32) (q4 : Int32) (q5 : Int32), (0 ≤ q3.toInt ∧ q3.toInt ≤ 2147483647) → (0 ≤ q5.toInt ∧ q5.toInt ≤ 20) → (KX12 q0 q2) → (y117_7.toInt < q5.toInt) → wq (g117 q0 q1 q2 q3 q4 q5) (fun r => KX12 r.2.1 r.2.2.2 ∧ True)) : ∀ (fu : Nat) (I0_l135 : (Nat → Int32)) (L0_l135 : Int64) (M0_l135 : (Nat → Nat → Int32)) (y135_6 : Int32) (y135_8 : Int32), (0 ≤ y135_8.toInt ∧ y135_8.toInt ≤ 19) → (KX12 I0_l135 M0_l135) → (19 - y135_8.toInt) < (fu : Int) → wq (fX12_order_L135 N x1 x2 x3 y117_5 y117_7 y51_4 g51 g117 fu I0_l135 L0_l135 M0_l135 y135_6 y135_8) (fun r => KX12 r.2.1 r.2.2.2 ∧ True) := by
  intro fu
  induction fu with
  | zero => intro I0_l135 L0_l135 M0_l135 y135_6 y135_8 h_y135_8 k_I0_l135 hm; exfalso; omega
  | succ fu ih =>
    intro I0_l135 L0_l135 M0_l135 y135_6 y135_8 h_y135_8 k_I0_l135 hm
    rw [fX12_order_L135.eq_2]
    refine wq_le (fun hc_61650 => ?_) (fun hc_61651 => ?_)
    · refine wq_in (n := 20) ⟨by omega, by omega⟩ ?_
      have b_61652 := i32b y117_5
      refine wq_le (fun hc_61653 => ?_) (fun hc_61654 => ?_)
      · have l_1 := il_1
        have t_61656 := ia_add y117_7 (1 : Int32) (by omega) (by omega)
        refine wq_v (fun v3_q61655 h_v3_q61655 => ?_)
        have t_v3_q61655 := congrArg Int32.toInt h_v3_q61655
        have b_61657 := i32b y135_6
        exact hg117 I0_l135 L0_l135 M0_l135 y117_5 y135_6 v3_q61655 ⟨by omega, by omega⟩ ⟨by omega, by omega⟩ k_I0_l135 (by omega)
      · refine wq_in (n := 20) ⟨by omega, by omega⟩ ?_
        refine wq_v (fun v4_q61658 h_v4_q61658 => ?_)
        have t_v4_q61658 := congrArg Int32.toInt h_v4_q61658
        have l_1 := il_1
        have t_61660 := ia_add y117_7 (1 : Int32) (by omega) (by omega)
        refine wq_v (fun v5_q61659 h_v5_q61659 => ?_)
        have t_v5_q61659 := congrArg Int32.toInt h_v5_q61659
        have b_61661 := i32b v4_q61658
        have b_61662 := i32b y135_6
        exact hg117 I0_l135 L0_l135 M0_l135 v4_q61658 y135_6 v5_q61659 ⟨by omega, by omega⟩ ⟨by omega, by omega⟩ k_I0_l135 (by omega)
    · refine wq_in (n := 20) ⟨by omega, by omega⟩ ?_
      refine wq_in (n := 20) ⟨by omega, by omega⟩ ?_
      refine wq_le (fun hc_61663 => ?_) (fun hc_61664 => ?_)
      · refine wq_in (n := 20) ⟨by omega, by omega⟩ ?_
        refine wq_in (n := 20) ⟨by omega, by omega⟩ ?_
        have l_1 := il_1
        refine wq_le (fun hc_61665 => ?_) (fun hc_61666 => ?_)
        · have t_61668 := ia_add y135_8 (1 : Int32) (by omega) (by omega)
          refine wq_v (fun v6_q61667 h_v6_q61667 => ?_)
          have t_v6_q61667 := congrArg Int32.toInt h_v6_q61667
          have b_61669 := i32b y135_6
          exact ih I0_l135 L0_l135 M0_l135 y135_6 v6_q61667 ⟨by omega, by omega⟩ k_I0_l135 (by omega)
        · refine wq_in (n := 20) ⟨by omega, by omega⟩ ?_
          refine wq_in (n := 20) ⟨by omega, by omega⟩ ?_
          refine wq_v (fun M0_7_q61670 h_M0_7_q61670 => ?_)
          have k_M0_7_q61670 : KX12 I0_l135 M0_7_q61670 := by rw [h_M0_7_q61670]; exact KX12.sm30 k_I0_l135
          have t_61672 := ia_add y135_8 (1 : Int32) (by omega) (by omega)
          refine wq_v (fun v8_q61671 h_v8_q61671 => ?_)
          have t_v8_q61671 := congrArg Int32.toInt h_v8_q61671
          have b_61673 := i32b y135_6
          exact ih I0_l135 L0_l135 M0_7_q61670 y135_6 v8_q61671 ⟨by omega, by omega⟩ k_M0_7_q61670 (by omega)
      · have b_61675 := i32b y135_6
        have l_1 := il_1
        refine wq_v (fun v9_q61674 h_v9_q61674 => ?_)
        have t_v9_q61674 := congrArg Int32.toInt h_v9_q61674
        have t_61677 := ia_add y135_8 (1 : Int32) (by omega) (by omega)
        refine wq_v (fun v10_q61676 h_v10_q61676 => ?_)
        have t_v10_q61676 := congrArg Int32.toInt h_v10_q61676
        have b_61678 := i32b v9_q61674
        exact ih I0_l135 L0_l135 M0_l135 v9_q61674 v10_q61676 ⟨by omega, by omega⟩ k_I0_l135 (by omega)
set_option maxHeartbeats 4000000 in
theorem tt_fX12_order_L117 {N : Nat} (hN : 3000000000 ≤ N) (x1 : Int32) (x2 : Int32) (x3 : Int32) (y51_4 : Int32) (g51 : (Nat → Int32) → Int64 → (Nat → Nat → Int32) → Int32 → Int32 → Option (Int32 × (Nat → Int32) × Int64 × (Nat → Nat → Int32))) (h_x1 : 0 ≤ x1.toInt ∧ x1.toInt ≤ 5) (h_x2 : 0 ≤ x2.toInt ∧ x2.toInt ≤ 5) (h_y51_4 : 0 ≤ y51_4.toInt ∧ y51_4.toInt ≤ 20)  : ∀ (fu : Nat) (I0_l117 : (Nat → Int32)) (L0_l117 : Int64) (M0_l117 : (Nat → Nat → Int32)) (y117_5 : Int32) (y117_6 : Int32) (y117_7 : Int32), (0 ≤ y117_5.toInt ∧ y117_5.toInt ≤ 2147483647) → (0 ≤ y117_7.toInt ∧ y117_7.toInt ≤ 20) → (KX12 I0_l117 M0_l117) → (20 - y117_7.toInt) < (fu : Int) → wq (fX12_order_L117 N x1 x2 x3 y51_4 g51 fu I0_l117 L0_l117 M0_l117 y117_5 y117_6 y117_7) (fun r => KX12 r.2.1 r.2.2.2 ∧ True) := by
  intro fu
  induction fu with
  | zero => intro I0_l117 L0_l117 M0_l117 y117_5 y117_6 y117_7 h_y117_5 h_y117_7 k_I0_l117 hm; exfalso; omega
  | succ fu ih =>
    intro I0_l117 L0_l117 M0_l117 y117_5 y117_6 y117_7 h_y117_5 h_y117_7 k_I0_l117 hm
    rw [fX12_order_L117.eq_2]
    refine wq_le (fun hc_61679 => ?_) (fun hc_61680 => ?_)
    · have b_61681 := i32b x3
      have l_0 := il_0
      refine wq_eq (fun hc_61682 => ?_) (fun hc_61683 => ?_)
      · have b_61684 := i32b y117_5
        exact wq_s ⟨k_I0_l117, trivial⟩
      · have b_61685 := i32b y117_6
        exact wq_s ⟨k_I0_l117, trivial⟩
    · refine wq_in (n := 20) ⟨by omega, by omega⟩ ?_
      refine wq_v (fun M0_2_q61686 h_M0_2_q61686 => ?_)
      have k_M0_2_q61686 : KX12 I0_l117 M0_2_q61686 := by rw [h_M0_2_q61686]; exact KX12.sm30 k_I0_l117
      have b_61687 := i32b x3
      have b_61688 := i32b y117_5
      have b_61689 := i32b y117_6
      have l_0 := il_0
      exact tt_fX12_order_L135 hN x1 x2 x3 y117_5 y117_7 y51_4 g51 _ ⟨by omega, by omega⟩ ⟨by omega, by omega⟩ ⟨by omega, by omega⟩ ⟨by omega, by omega⟩ ⟨by omega, by omega⟩ (fun q0 q1 q2 q3 q4 q5 hq0 hq1 hq2 hq3 => ih q0 q1 q2 q3 q4 q5 hq0 hq1 hq2 (by omega)) N I0_l117 L0_l117 M0_2_q61686 y117_6 (0 : Int32) ⟨by omega, by omega⟩ k_M0_2_q61686 (by omega)
set_option maxHeartbeats 4000000 in
theorem tt_fX12_order_L51 {N : Nat} (hN : 3000000000 ≤ N) (x1 : Int32) (x2 : Int32) (x3 : Int32) (h_x1 : 0 ≤ x1.toInt ∧ x1.toInt ≤ 5) (h_x2 : 0 ≤ x2.toInt ∧ x2.toInt ≤ 5)  : ∀ (fu : Nat) (I0_l51 : (Nat → Int32)) (L0_l51 : Int64) (M0_l51 : (Nat → Nat → Int32)) (y51_4 : Int32) (y51_5 : Int32), (0 ≤ y51_4.toInt ∧ y51_4.toInt ≤ 20) → (0 ≤ y51_5.toInt ∧ y51_5.toInt ≤ 20) → (KX12 I0_l51 M0_l51) → (y51_4.toInt ≤ y51_5.toInt) → (20 - y51_5.toInt) < (fu : Int) → wq (fX12_order_L51 N x1 x2 x3 fu I0_l51 L0_l51 M0_l51 y51_4 y51_5) (fun r => KX12 r.2.1 r.2.2.2 ∧ True) := by
  intro fu
  induction fu with
  | zero => intro I0_l51 L0_l51 M0_l51 y51_4 y51_5 h_y51_4 h_y51_5 k_I0_l51 hl_3 hm; exfalso; omega
  | succ fu ih =>
    intro I0_l51 L0_l51 M0_l51 y51_4 y51_5 h_y51_4 h_y51_5 k_I0_l51 hl_3 hm
    rw [fX12_order_L51.eq_2]
    refine wq_in (n := 6) ⟨by omega, by omega⟩ ?_
    have t_61690 := KX12.m27 k_I0_l51 x1.toNatClampNeg
    refine wq_le (fun hc_61691 => ?_) (fun hc_61692 => ?_)
    · have b_61693 := i32b x3
      have l_0 := il_0
      exact tt_fX12_order_L117 hN x1 x2 x3 y51_4 _ ⟨by omega, by omega⟩ ⟨by omega, by omega⟩ ⟨by omega, by omega⟩ N I0_l51 L0_l51 M0_l51 (0 : Int32) (0 : Int32) (0 : Int32) ⟨by omega, by omega⟩ ⟨by omega, by omega⟩ k_I0_l51 (by omega)
    · have l_20 := il_20
      have t_61694 := ia_mul (20 : Int32) (20) il_20 x1 (by omega) (by omega)
      have t_61695 := ia_add ((20 : Int32) * x1) y51_5 (by omega) (by omega)
      refine wq_in (n := 120) ⟨by omega, by omega⟩ ?_
      refine wq_b (tt_fX12_leafAt hN I0_l51 L0_l51 M0_l51 x2 (M0_l51 28 (((20 : Int32) * x1) + y51_5).toNatClampNeg) ⟨by omega, by omega⟩ k_I0_l51) (fun r11_q61696 h_r11_q61696 => ?_)
      obtain ⟨h_r11_q61696_0, -⟩ := h_r11_q61696
      have l_m1 := il_m1
      refine wq_eq (fun hc_61697 => ?_) (fun hc_61698 => ?_)
      · have l_1 := il_1
        have t_61700 := ia_add y51_5 (1 : Int32) (by omega) (by omega)
        refine wq_v (fun v15_q61699 h_v15_q61699 => ?_)
        have t_v15_q61699 := congrArg Int32.toInt h_v15_q61699
        exact ih I0_l51 L0_l51 M0_l51 y51_4 v15_q61699 ⟨by omega, by omega⟩ ⟨by omega, by omega⟩ k_I0_l51 (by omega) (by omega)
      · refine wq_in (n := 20) ⟨by omega, by omega⟩ ?_
        refine wq_v (fun M0_12_q61701 h_M0_12_q61701 => ?_)
        have k_M0_12_q61701 : KX12 I0_l51 M0_12_q61701 := by rw [h_M0_12_q61701]; exact KX12.sm29 k_I0_l51
        have l_1 := il_1
        have t_61703 := ia_add y51_4 (1 : Int32) (by omega) (by omega)
        refine wq_v (fun v13_q61702 h_v13_q61702 => ?_)
        have t_v13_q61702 := congrArg Int32.toInt h_v13_q61702
        have t_61705 := ia_add y51_5 (1 : Int32) (by omega) (by omega)
        refine wq_v (fun v14_q61704 h_v14_q61704 => ?_)
        have t_v14_q61704 := congrArg Int32.toInt h_v14_q61704
        exact ih I0_l51 L0_l51 M0_12_q61701 v13_q61702 v14_q61704 ⟨by omega, by omega⟩ ⟨by omega, by omega⟩ k_M0_12_q61701 (by omega) (by omega)
set_option maxHeartbeats 4000000 in
theorem tt_fX12_order {N : Nat} (hN : 3000000000 ≤ N) (I0 : Nat → Int32) (L0 : Int64) (M0 : Nat → Nat → Int32) (x1 : Int32) (x2 : Int32) (x3 : Int32) (k_I0 : KX12 I0 M0) : wq (fX12_order N I0 L0 M0 x1 x2 x3) (fun r => KX12 r.2.1 r.2.2.2 ∧ True) := by
  unfold fX12_order
  refine wq_v (fun I0_16_q61706 h_I0_16_q61706 => ?_)
  have k_I0_16_q61706 : KX12 I0_16_q61706 M0 := by rw [h_I0_16_q61706]; exact KX12.si0 k_I0
  have b_61707 := i32b x1
  refine wq_b (tt_fX12_isBook hN I0_16_q61706 L0 M0 x1 k_I0_16_q61706) (fun r17_q61708 h_r17_q61708 => ?_)
  obtain ⟨h_r17_q61708_0, h_r17_q61708_1, h_r17_q61708_2, h_r17_q61708_3, -⟩ := h_r17_q61708
  have t_61709 := KX12.i1 h_r17_q61708_3
  have t_61710 := KX12.i1 k_I0
  have t_61711 : (I0_16_q61706 1).toInt = (I0 1).toInt := by rw [h_I0_16_q61706]; rfl
  have l_0 := il_0
  refine wq_eq (fun hc_61712 => ?_) (fun hc_61713 => ?_)
  · exact wq_s ⟨h_r17_q61708_3, trivial⟩
  · have b_61714 := i32b x2
    refine wq_b (tt_fX12_isBook hN r17_q61708.2.1 r17_q61708.2.2.1 r17_q61708.2.2.2 x2 h_r17_q61708_3) (fun r18_q61715 h_r18_q61715 => ?_)
    obtain ⟨h_r18_q61715_0, h_r18_q61715_1, h_r18_q61715_2, h_r18_q61715_3, -⟩ := h_r18_q61715
    have t_61716 := KX12.i1 h_r18_q61715_3
    refine wq_eq (fun hc_61717 => ?_) (fun hc_61718 => ?_)
    · exact wq_s ⟨h_r18_q61715_3, trivial⟩
    · have b_61719 := i32b x3
      refine wq_eq (fun hc_61720 => ?_) (fun hc_61721 => ?_)
      · unfold fX12_order_J31
        unfold fX12_order_J36
        have l_1 := il_1
        refine wq_b (tt_fX12_right hN r18_q61715.2.1 r18_q61715.2.2.1 r18_q61715.2.2.2 (1 : Int32) (1 : Int32) ⟨by omega, by omega⟩ h_r18_q61715_3) (fun r1_q61722 h_r1_q61722 => ?_)
        obtain ⟨h_r1_q61722_0, h_r1_q61722_1, h_r1_q61722_2, h_r1_q61722_3, -⟩ := h_r1_q61722
        have t_61723 := KX12.i1 h_r1_q61722_3
        refine wq_eq (fun hc_61724 => ?_) (fun hc_61725 => ?_)
        · exact wq_s ⟨h_r1_q61722_3, trivial⟩
        · exact tt_fX12_order_L51 hN x1 x2 x3 ⟨by omega, by omega⟩ ⟨by omega, by omega⟩ N r1_q61722.2.1 r1_q61722.2.2.1 r1_q61722.2.2.2 (0 : Int32) (0 : Int32) ⟨by omega, by omega⟩ ⟨by omega, by omega⟩ h_r1_q61722_3 (by omega) (by omega)
      · have l_1 := il_1
        refine wq_eq (fun hc_61726 => ?_) (fun hc_61727 => ?_)
        · unfold fX12_order_J31
          unfold fX12_order_J36
          refine wq_b (tt_fX12_right hN r18_q61715.2.1 r18_q61715.2.2.1 r18_q61715.2.2.2 (1 : Int32) (1 : Int32) ⟨by omega, by omega⟩ h_r18_q61715_3) (fun r1_q61728 h_r1_q61728 => ?_)
          obtain ⟨h_r1_q61728_0, h_r1_q61728_1, h_r1_q61728_2, h_r1_q61728_3, -⟩ := h_r1_q61728
          have t_61729 := KX12.i1 h_r1_q61728_3
          refine wq_eq (fun hc_61730 => ?_) (fun hc_61731 => ?_)
          · exact wq_s ⟨h_r1_q61728_3, trivial⟩
          · exact tt_fX12_order_L51 hN x1 x2 x3 ⟨by omega, by omega⟩ ⟨by omega, by omega⟩ N r1_q61728.2.1 r1_q61728.2.2.1 r1_q61728.2.2.2 (0 : Int32) (0 : Int32) ⟨by omega, by omega⟩ ⟨by omega, by omega⟩ h_r1_q61728_3 (by omega) (by omega)
        · unfold fX12_order_J36
          refine wq_b (tt_fX12_right hN r18_q61715.2.1 r18_q61715.2.2.1 r18_q61715.2.2.2 (0 : Int32) (1 : Int32) ⟨by omega, by omega⟩ h_r18_q61715_3) (fun r1_q61732 h_r1_q61732 => ?_)
          obtain ⟨h_r1_q61732_0, h_r1_q61732_1, h_r1_q61732_2, h_r1_q61732_3, -⟩ := h_r1_q61732
          have t_61733 := KX12.i1 h_r1_q61732_3
          refine wq_eq (fun hc_61734 => ?_) (fun hc_61735 => ?_)
          · exact wq_s ⟨h_r1_q61732_3, trivial⟩
          · exact tt_fX12_order_L51 hN x1 x2 x3 ⟨by omega, by omega⟩ ⟨by omega, by omega⟩ N r1_q61732.2.1 r1_q61732.2.2.1 r1_q61732.2.2.2 (0 : Int32) (0 : Int32) ⟨by omega, by omega⟩ ⟨by omega, by omega⟩ h_r1_q61732_3 (by omega) (by omega)
set_option maxHeartbeats 4000000 in
theorem tt_fX12_areSame_L6 {N : Nat} (hN : 3000000000 ≤ N) (I0 : Nat → Int32) (L0 : Int64) (M0 : Nat → Nat → Int32) (x1 : Int32) (x2 : Int32) (x3 : Int32) (h_x1 : 0 ≤ x1.toInt ∧ x1.toInt ≤ 119) (h_x2 : 0 ≤ x2.toInt ∧ x2.toInt ≤ 119) (k_I0 : KX12 I0 M0)  : ∀ (fu : Nat) (y6_4 : Int32) (y6_5 : Int32), (0 ≤ y6_5.toInt ∧ y6_5.toInt ≤ 7) → (7 - y6_5.toInt) < (fu : Int) → wq (fX12_areSame_L6 N I0 L0 M0 x1 x2 x3 fu y6_4 y6_5) (fun r => (0 ≤ r.toInt ∧ r.toInt ≤ 1) ∧ True) := by
  intro fu
  induction fu with
  | zero => intro y6_4 y6_5 h_y6_5 hm; exfalso; omega
  | succ fu ih =>
    intro y6_4 y6_5 h_y6_5 hm
    rw [fX12_areSame_L6.eq_2]
    have l_7 := il_7
    refine wq_le (fun hc_62201 => ?_) (fun hc_62202 => ?_)
    · have b_62203 := i32b y6_4
      have b_62204 := i32b x3
      refine wq_lt (fun hc_62205 => ?_) (fun hc_62206 => ?_)
      · have l_0 := il_0
        exact wq_s ⟨(show 0 ≤ (0 : Int32).toInt ∧ (0 : Int32).toInt ≤ 1 from ⟨by omega, by omega⟩), trivial⟩
      · have l_1 := il_1
        exact wq_s ⟨(show 0 ≤ (1 : Int32).toInt ∧ (1 : Int32).toInt ≤ 1 from ⟨by omega, by omega⟩), trivial⟩
    · refine wq_b (tt_fX12_at hN I0 L0 M0 x1 y6_5 ⟨by omega, by omega⟩ ⟨by omega, by omega⟩ k_I0) (fun r1_q62207 h_r1_q62207 => ?_)
      obtain ⟨h_r1_q62207_0, h_r1_q62207_1, h_r1_q62207_2, -⟩ := h_r1_q62207
      refine wq_b (tt_fX12_at hN I0 L0 M0 x2 y6_5 ⟨by omega, by omega⟩ ⟨by omega, by omega⟩ k_I0) (fun r2_q62208 h_r2_q62208 => ?_)
      obtain ⟨h_r2_q62208_0, h_r2_q62208_1, h_r2_q62208_2, -⟩ := h_r2_q62208
      have l_m1 := il_m1
      refine wq_eq (fun hc_62209 => ?_) (fun hc_62210 => ?_)
      · have l_1 := il_1
        have t_62212 := ia_add y6_5 (1 : Int32) (by omega) (by omega)
        refine wq_v (fun v3_q62211 h_v3_q62211 => ?_)
        have t_v3_q62211 := congrArg Int32.toInt h_v3_q62211
        have b_62213 := i32b y6_4
        exact ih y6_4 v3_q62211 ⟨by omega, by omega⟩ (by omega)
      · refine wq_eq (fun hc_62214 => ?_) (fun hc_62215 => ?_)
        · have l_1 := il_1
          have t_62217 := ia_add y6_5 (1 : Int32) (by omega) (by omega)
          refine wq_v (fun v10_q62216 h_v10_q62216 => ?_)
          have t_v10_q62216 := congrArg Int32.toInt h_v10_q62216
          have b_62218 := i32b y6_4
          exact ih y6_4 v10_q62216 ⟨by omega, by omega⟩ (by omega)
        · refine wq_b (tt_fX12_costOf hN I0 L0 M0 r1_q62207 r2_q62208 ⟨by omega, by omega⟩ k_I0) (fun r4_q62219 h_r4_q62219 => ?_)
          obtain ⟨h_r4_q62219_0, -⟩ := h_r4_q62219
          have l_1 := il_1
          refine wq_le (fun hc_62220 => ?_) (fun hc_62221 => ?_)
          · have b_62223 := i32b y6_4
            refine wq_v (fun v5_q62222 h_v5_q62222 => ?_)
            have t_v5_q62222 := congrArg Int32.toInt h_v5_q62222
            have t_62225 := ia_add y6_5 (1 : Int32) (by omega) (by omega)
            refine wq_v (fun v6_q62224 h_v6_q62224 => ?_)
            have t_v6_q62224 := congrArg Int32.toInt h_v6_q62224
            have b_62226 := i32b v5_q62222
            exact ih v5_q62222 v6_q62224 ⟨by omega, by omega⟩ (by omega)
          · refine wq_b (tt_fX12_costOf hN I0 L0 M0 r2_q62208 r1_q62207 ⟨by omega, by omega⟩ k_I0) (fun r7_q62227 h_r7_q62227 => ?_)
            obtain ⟨h_r7_q62227_0, -⟩ := h_r7_q62227
            refine wq_le (fun hc_62228 => ?_) (fun hc_62229 => ?_)
            · have b_62231 := i32b y6_4
              refine wq_v (fun v8_q62230 h_v8_q62230 => ?_)
              have t_v8_q62230 := congrArg Int32.toInt h_v8_q62230
              have t_62233 := ia_add y6_5 (1 : Int32) (by omega) (by omega)
              refine wq_v (fun v9_q62232 h_v9_q62232 => ?_)
              have t_v9_q62232 := congrArg Int32.toInt h_v9_q62232
              have b_62234 := i32b v8_q62230
              exact ih v8_q62230 v9_q62232 ⟨by omega, by omega⟩ (by omega)
            · have l_0 := il_0
              exact wq_s ⟨(show 0 ≤ (0 : Int32).toInt ∧ (0 : Int32).toInt ≤ 1 from ⟨by omega, by omega⟩), trivial⟩
set_option maxHeartbeats 4000000 in
theorem tt_fX12_areSame {N : Nat} (hN : 3000000000 ≤ N) (I0 : Nat → Int32) (L0 : Int64) (M0 : Nat → Nat → Int32) (x1 : Int32) (x2 : Int32) (x3 : Int32) (h_x1 : 0 ≤ x1.toInt ∧ x1.toInt ≤ 119) (h_x2 : 0 ≤ x2.toInt ∧ x2.toInt ≤ 119) (k_I0 : KX12 I0 M0) : wq (fX12_areSame N I0 L0 M0 x1 x2 x3) (fun r => (0 ≤ r.toInt ∧ r.toInt ≤ 1) ∧ True) := by
  unfold fX12_areSame
  have b_62235 := i32b x3
  have l_0 := il_0
  exact tt_fX12_areSame_L6 hN I0 L0 M0 x1 x2 x3 ⟨by omega, by omega⟩ ⟨by omega, by omega⟩ k_I0 N (0 : Int32) (0 : Int32) ⟨by omega, by omega⟩ (by omega)
set_option maxHeartbeats 4000000 in
theorem tt_fX12_isNumber {N : Nat} (hN : 3000000000 ≤ N) (I0 : Nat → Int32) (L0 : Int64) (M0 : Nat → Nat → Int32) (x1 : Int32) (k_I0 : KX12 I0 M0) : wq (fX12_isNumber N I0 L0 M0 x1) (fun r => (r.1.toInt = 0 ∨ (r.1.toInt = 1 ∧ 0 ≤ x1.toInt ∧ x1.toInt ≤ 119)) ∧ (r.2.1 1).toInt = (I0 1).toInt ∧ (0 ≤ r.1.toInt ∧ r.1.toInt ≤ 1) ∧ KX12 r.2.1 r.2.2.2 ∧ True) := by
  unfold fX12_isNumber
  have b_62320 := i32b x1
  have l_0 := il_0
  refine wq_lt (fun hc_62321 => ?_) (fun hc_62322 => ?_)
  · have l_1 := il_1
    refine wq_b (tt_fX12_right hN I0 L0 M0 (0 : Int32) (1 : Int32) ⟨by omega, by omega⟩ k_I0) (fun r1_q62323 h_r1_q62323 => ?_)
    obtain ⟨h_r1_q62323_0, h_r1_q62323_1, h_r1_q62323_2, h_r1_q62323_3, -⟩ := h_r1_q62323
    have t_62324 := KX12.i1 h_r1_q62323_3
    have t_62325 := KX12.i1 k_I0
    refine wq_bz (by omega) ?_
    exact wq_s ⟨(show (r1_q62323.1.toInt = 0 ∨ (r1_q62323.1.toInt = 1 ∧ 0 ≤ x1.toInt ∧ x1.toInt ≤ 119)) from by omega), (show (r1_q62323.2.1 1).toInt = (I0 1).toInt from by omega), (show 0 ≤ r1_q62323.1.toInt ∧ r1_q62323.1.toInt ≤ 1 from ⟨by omega, by omega⟩), h_r1_q62323_3, trivial⟩
  · have l_120 := il_120
    refine wq_le (fun hc_62326 => ?_) (fun hc_62327 => ?_)
    · have l_1 := il_1
      refine wq_b (tt_fX12_right hN I0 L0 M0 (0 : Int32) (1 : Int32) ⟨by omega, by omega⟩ k_I0) (fun r2_q62328 h_r2_q62328 => ?_)
      obtain ⟨h_r2_q62328_0, h_r2_q62328_1, h_r2_q62328_2, h_r2_q62328_3, -⟩ := h_r2_q62328
      have t_62329 := KX12.i1 h_r2_q62328_3
      have t_62330 := KX12.i1 k_I0
      refine wq_bz (by omega) ?_
      exact wq_s ⟨(show (r2_q62328.1.toInt = 0 ∨ (r2_q62328.1.toInt = 1 ∧ 0 ≤ x1.toInt ∧ x1.toInt ≤ 119)) from by omega), (show (r2_q62328.2.1 1).toInt = (I0 1).toInt from by omega), (show 0 ≤ r2_q62328.1.toInt ∧ r2_q62328.1.toInt ≤ 1 from ⟨by omega, by omega⟩), h_r2_q62328_3, trivial⟩
    · have l_1 := il_1
      refine wq_b (tt_fX12_right hN I0 L0 M0 (1 : Int32) (1 : Int32) ⟨by omega, by omega⟩ k_I0) (fun r3_q62331 h_r3_q62331 => ?_)
      obtain ⟨h_r3_q62331_0, h_r3_q62331_1, h_r3_q62331_2, h_r3_q62331_3, -⟩ := h_r3_q62331
      have t_62332 := KX12.i1 h_r3_q62331_3
      have t_62333 := KX12.i1 k_I0
      refine wq_bz (by omega) ?_
      exact wq_s ⟨(show (r3_q62331.1.toInt = 0 ∨ (r3_q62331.1.toInt = 1 ∧ 0 ≤ x1.toInt ∧ x1.toInt ≤ 119)) from by omega), (show (r3_q62331.2.1 1).toInt = (I0 1).toInt from by omega), (show 0 ≤ r3_q62331.1.toInt ∧ r3_q62331.1.toInt ≤ 1 from ⟨by omega, by omega⟩), h_r3_q62331_3, trivial⟩
set_option maxHeartbeats 4000000 in
theorem tt_fX12_same {N : Nat} (hN : 3000000000 ≤ N) (I0 : Nat → Int32) (L0 : Int64) (M0 : Nat → Nat → Int32) (x1 : Int32) (x2 : Int32) (x3 : Int32) (k_I0 : KX12 I0 M0) : wq (fX12_same N I0 L0 M0 x1 x2 x3) (fun r => (0 ≤ r.1.toInt ∧ r.1.toInt ≤ 1) ∧ KX12 r.2.1 r.2.2.2 ∧ True) := by
  unfold fX12_same
  refine wq_v (fun I0_1_q62454 h_I0_1_q62454 => ?_)
  have k_I0_1_q62454 : KX12 I0_1_q62454 M0 := by rw [h_I0_1_q62454]; exact KX12.si0 k_I0
  have b_62455 := i32b x3
  have l_1 := il_1
  have l_7 := il_7
  refine wq_b (tt_fX12_within hN x3 (1 : Int32) (7 : Int32)) (fun r2_q62456 h_r2_q62456 => ?_)
  obtain ⟨h_r2_q62456_0, h_r2_q62456_1, -⟩ := h_r2_q62456
  refine wq_b (tt_fX12_right hN I0_1_q62454 L0 M0 r2_q62456 (1 : Int32) ⟨by omega, by omega⟩ k_I0_1_q62454) (fun r3_q62457 h_r3_q62457 => ?_)
  obtain ⟨h_r3_q62457_0, h_r3_q62457_1, h_r3_q62457_2, h_r3_q62457_3, -⟩ := h_r3_q62457
  have t_62458 := KX12.i1 h_r3_q62457_3
  have t_62459 := KX12.i1 k_I0
  have t_62460 : (I0_1_q62454 1).toInt = (I0 1).toInt := by rw [h_I0_1_q62454]; rfl
  have l_0 := il_0
  refine wq_eq (fun hc_62461 => ?_) (fun hc_62462 => ?_)
  · exact wq_s ⟨(show 0 ≤ (0 : Int32).toInt ∧ (0 : Int32).toInt ≤ 1 from ⟨by omega, by omega⟩), h_r3_q62457_3, trivial⟩
  · have b_62463 := i32b x1
    refine wq_b (tt_fX12_isNumber hN r3_q62457.2.1 r3_q62457.2.2.1 r3_q62457.2.2.2 x1 h_r3_q62457_3) (fun r4_q62464 h_r4_q62464 => ?_)
    obtain ⟨h_r4_q62464_0, h_r4_q62464_1, h_r4_q62464_2, h_r4_q62464_3, -⟩ := h_r4_q62464
    have t_62465 := KX12.i1 h_r4_q62464_3
    refine wq_eq (fun hc_62466 => ?_) (fun hc_62467 => ?_)
    · exact wq_s ⟨(show 0 ≤ (0 : Int32).toInt ∧ (0 : Int32).toInt ≤ 1 from ⟨by omega, by omega⟩), h_r4_q62464_3, trivial⟩
    · have b_62468 := i32b x2
      refine wq_b (tt_fX12_isNumber hN r4_q62464.2.1 r4_q62464.2.2.1 r4_q62464.2.2.2 x2 h_r4_q62464_3) (fun r5_q62469 h_r5_q62469 => ?_)
      obtain ⟨h_r5_q62469_0, h_r5_q62469_1, h_r5_q62469_2, h_r5_q62469_3, -⟩ := h_r5_q62469
      have t_62470 := KX12.i1 h_r5_q62469_3
      refine wq_eq (fun hc_62471 => ?_) (fun hc_62472 => ?_)
      · exact wq_s ⟨(show 0 ≤ (0 : Int32).toInt ∧ (0 : Int32).toInt ≤ 1 from ⟨by omega, by omega⟩), h_r5_q62469_3, trivial⟩
      · refine wq_b (tt_fX12_areSame hN r5_q62469.2.1 r5_q62469.2.2.1 r5_q62469.2.2.2 x1 x2 x3 ⟨by omega, by omega⟩ ⟨by omega, by omega⟩ h_r5_q62469_3) (fun r6_q62473 h_r6_q62473 => ?_)
        obtain ⟨h_r6_q62473_0, -⟩ := h_r6_q62473
        refine wq_bz (by omega) ?_
        exact wq_s ⟨(show 0 ≤ r6_q62473.toInt ∧ r6_q62473.toInt ≤ 1 from ⟨by omega, by omega⟩), h_r5_q62469_3, trivial⟩
def PS (f : Nat → Int32) : Prop := ∀ j : Nat, j < 120 → 0 ≤ (f j).toInt ∧ (f j).toInt ≤ 119
theorem PS.um {f : Nat → Int32} (h : PS f) {i : Nat} {v : Int32} (hv : 0 ≤ v.toInt ∧ v.toInt ≤ 119) : PS (upd f i v) := by
  intro j hj
  unfold upd
  by_cases q : j = i
  · rw [if_pos q]; exact hv
  · rw [if_neg q]; exact h j hj
theorem sm_ud (f : Nat → Int32) (i : Nat) (v : Int32) : ∀ n : Nat, i < n → sm (upd f i v) 0 n = sm f 0 n - (f i).toInt + v.toInt := by
  intro n
  induction n with
  | zero => intro h; exact absurd h (by omega)
  | succ n ih =>
    intro h
    show sm (upd f i v) 0 n + (upd f i v (0 + n)).toInt = sm f 0 n + (f (0 + n)).toInt - (f i).toInt + v.toInt
    rw [Nat.zero_add]
    by_cases q : i = n
    · subst q
      rw [sm_up f 0 i v i (fun w hw => by omega)]
      have e : upd f i v i = v := if_pos rfl
      rw [e]; omega
    · have e : upd f i v n = f n := if_neg (fun z => q z.symm)
      rw [ih (by omega), e]; omega
theorem sm_nng (f : Nat → Int32) (h : PS f) : ∀ n : Nat, n ≤ 120 → 0 ≤ sm f 0 n ∧ sm f 0 n ≤ 119 * n := by
  intro n
  induction n with
  | zero => intro _; exact ⟨Int.le_refl _, Int.le_refl _⟩
  | succ n ih =>
    intro hn
    have a := ih (by omega)
    have b := h n (by omega)
    show 0 ≤ sm f 0 n + (f (0 + n)).toInt ∧ sm f 0 n + (f (0 + n)).toInt ≤ _
    rw [Nat.zero_add]
    omega
theorem bi_sum {f : Nat → Int32} {a b : Nat} (hab : b < a) (ha : a < 120) (z : Int32) : sm (upd (upd f a z) b z) 0 120 = sm f 0 120 - (f a).toInt - (f b).toInt + 2 * z.toInt := by
  rw [sm_ud _ b z 120 (by omega), sm_ud f a z 120 ha]
  have e : upd f a z b = f b := if_neg (by omega)
  rw [e]; omega
theorem tt_bi211 {N : Nat} (hN : 3000000000 ≤ N) (x1 x2 : Int32) (g43 g64 : (Nat → Int32) → Int64 → (Nat → Nat → Int32) → Int32 → Option (Int32 × (Nat → Int32) × Int64 × (Nat → Nat → Int32))) : ∀ (fu : Nat) (I : Nat → Int32) (L : Int64) (M : Nat → Nat → Int32) (y4 y5 : Int32), KX12 I M → (0 ≤ y5.toInt ∧ y5.toInt ≤ 120) → 120 - y5.toInt < (fu : Int) → wq (fX12_births_L211 N x1 x2 g43 g64 fu I L M y4 y5) (fun r => KX12 r.2.1 r.2.2.2 ∧ True) := by
  intro fu
  induction fu with
  | zero => intro I L M y4 y5 k hy hm; exfalso; omega
  | succ fu ih =>
    intro I L M y4 y5 k hy hm
    rw [fX12_births_L211.eq_2]
    have l_120 := il_120
    have l_1 := il_1
    refine wq_le (fun hc => wq_s ⟨k, trivial⟩) (fun hc => ?_)
    have t5 := ia_add y5 (1 : Int32) (by omega) (by omega)
    refine wq_in (n := 120) ⟨by omega, by omega⟩ ?_
    have nx : ∀ w v : Int32, v = y5 + (1 : Int32) → wq (fX12_births_L211 N x1 x2 g43 g64 fu I L M w v) (fun r => KX12 r.2.1 r.2.2.2 ∧ True) := by
      intro w v e
      have t6 := congrArg Int32.toInt e
      exact ih I L M w v k ⟨by omega, by omega⟩ (by omega)
    refine wq_i (fun hc2 => ?_) (fun hc2 => wq_v (fun w _ => wq_v (fun v e => nx w v e)))
    refine wq_b (tt_fX12_tells hN I L M y5 ⟨by omega, by omega⟩ k) (fun r _ => ?_)
    exact wq_i (fun _ => wq_v (fun w _ => wq_v (fun v e => nx w v e))) (fun _ => wq_v (fun w _ => wq_v (fun v e => nx w v e)))
theorem tt_bi156 {N : Nat} (x1 x2 a : Int32) (ha : 0 ≤ a.toInt ∧ a.toInt ≤ 119) (g43 g64 : (Nat → Int32) → Int64 → (Nat → Nat → Int32) → Int32 → Option (Int32 × (Nat → Int32) × Int64 × (Nat → Nat → Int32))) (g73 g83 : (Nat → Int32) → Int64 → (Nat → Nat → Int32) → Int32 → Int32 → Option (Int32 × (Nat → Int32) × Int64 × (Nat → Nat → Int32))) (Q : Int32 × (Nat → Int32) × Int64 × (Nat → Nat → Int32) → Prop) (I : Nat → Int32) (L : Int64) (M : Nat → Nat → Int32) (b z : Int32) (k : KX12 I M) (p : PS (M 31)) (hb : 0 ≤ b.toInt ∧ b.toInt < a.toInt) (hz : 0 ≤ z.toInt ∧ z.toInt ≤ 119) (hs : 2 * z.toInt < (M 31 a.toNatClampNeg).toInt + (M 31 b.toNatClampNeg).toInt) (hg : ∀ (m : Nat → Nat → Int32) (v : Int32), KX12 I m → PS (m 31) → sm (m 31) 0 120 + 1 ≤ sm (M 31) 0 120 → v = b + (1 : Int32) → wq (g83 I L m (1 : Int32) v) Q) : wq (fX12_births_J156 N x1 x2 a g43 g64 g73 g83 I L M b z) Q := by
  unfold fX12_births_J156
  refine wq_in (n := 120) ⟨by omega, by omega⟩ ?_
  refine wq_v (fun M1 e1 => ?_)
  refine wq_in (n := 120) ⟨by omega, by omega⟩ ?_
  refine wq_v (fun M2 e2 => ?_)
  refine wq_v (fun v e => ?_)
  have ca := tn_of a (by omega)
  have cb := tn_of b (by omega)
  have e31 : M2 31 = upd (upd (M 31) a.toNatClampNeg z) b.toNatClampNeg z := by rw [e2, e1]; rfl
  refine hg M2 v (by rw [e2, e1]; exact KX12.sm31 (KX12.sm31 k)) (by rw [e31]; exact PS.um (PS.um p hz) hz) ?_ e
  rw [e31, bi_sum (by omega) (by omega) z]
  omega
theorem tt_bi83 {N : Nat} (hN : 3000000000 ≤ N) (x1 x2 a : Int32) (ha : 0 ≤ a.toInt ∧ a.toInt ≤ 119) (g43 g64 : (Nat → Int32) → Int64 → (Nat → Nat → Int32) → Int32 → Option (Int32 × (Nat → Int32) × Int64 × (Nat → Nat → Int32))) (g73 : (Nat → Int32) → Int64 → (Nat → Nat → Int32) → Int32 → Int32 → Option (Int32 × (Nat → Int32) × Int64 × (Nat → Nat → Int32))) (S0 : Int) (Q : Int32 × (Nat → Int32) × Int64 × (Nat → Nat → Int32) → Prop) (hg : ∀ (I : Nat → Int32) (L : Int64) (M : Nat → Nat → Int32) (y v : Int32), KX12 I M → PS (M 31) → (0 ≤ y.toInt ∧ y.toInt ≤ 1) → sm (M 31) 0 120 + y.toInt ≤ S0 → v.toInt = a.toInt + 1 → wq (g73 I L M y v) Q) : ∀ (fu : Nat) (I : Nat → Int32) (L : Int64) (M : Nat → Nat → Int32) (y b : Int32), KX12 I M → PS (M 31) → (0 ≤ y.toInt ∧ y.toInt ≤ 1) → sm (M 31) 0 120 + y.toInt ≤ S0 → (0 ≤ b.toInt ∧ b.toInt ≤ a.toInt) → a.toInt - b.toInt < (fu : Int) → wq (fX12_births_L83 N x1 x2 a g43 g64 g73 fu I L M y b) Q := by
  intro fu
  induction fu with
  | zero => intro I L M y b k p hy hs hb hm; exfalso; omega
  | succ fu ih =>
    intro I L M y b k p hy hs hb hm
    rw [fX12_births_L83.eq_2]
    have l_1 := il_1
    have ta := ia_add a (1 : Int32) (by omega) (by omega)
    have tb := ia_add b (1 : Int32) (by omega) (by omega)
    refine wq_le (fun hc => wq_v (fun v e => hg I L M y v k p hy hs (by rw [e]; omega))) (fun hc => ?_)
    have nx : ∀ v : Int32, v = b + (1 : Int32) → wq (fX12_births_L83 N x1 x2 a g43 g64 g73 fu I L M y v) Q := by
      intro v e
      have t6 := congrArg Int32.toInt e
      exact ih I L M y v k p hy hs ⟨by omega, by omega⟩ (by omega)
    refine wq_in (n := 120) ⟨by omega, by omega⟩ ?_
    refine wq_in (n := 120) ⟨by omega, by omega⟩ ?_
    refine wq_eq (fun hc2 => wq_v (fun v e => nx v e)) (fun hc2 => ?_)
    refine wq_b (tt_fX12_areSame hN I L M a b x2 ha ⟨by omega, by omega⟩ k) (fun r _ => ?_)
    refine wq_i (fun hc3 => wq_v (fun v e => nx v e)) (fun hc3 => ?_)
    refine wq_in (n := 120) ⟨by omega, by omega⟩ ?_
    refine wq_in (n := 120) ⟨by omega, by omega⟩ ?_
    have ca := tn_of a (by omega)
    have cb := tn_of b (by omega)
    have pa := p a.toNatClampNeg (by omega)
    have pb := p b.toNatClampNeg (by omega)
    have jn : ∀ (m : Nat → Nat → Int32) (v : Int32), KX12 I m → PS (m 31) → sm (m 31) 0 120 + 1 ≤ sm (M 31) 0 120 → v = b + (1 : Int32) → wq (fX12_births_L83 N x1 x2 a g43 g64 g73 fu I L m (1 : Int32) v) Q := by
      intro m v km pm sm1 e
      have t6 := congrArg Int32.toInt e
      exact ih I L m (1 : Int32) v km pm ⟨by decide, by decide⟩ (by omega) ⟨by omega, by omega⟩ (by omega)
    refine wq_le (fun hc4 => ?_) (fun hc4 => ?_)
    · refine wq_in (n := 120) ⟨by omega, by omega⟩ ?_
      exact tt_bi156 x1 x2 a ha g43 g64 g73 _ Q I L M b _ k p ⟨by omega, by omega⟩ pb (by omega) jn
    · refine wq_in (n := 120) ⟨by omega, by omega⟩ ?_
      exact tt_bi156 x1 x2 a ha g43 g64 g73 _ Q I L M b _ k p ⟨by omega, by omega⟩ pa (by omega) jn
theorem tt_bi73 {N : Nat} (hN : 3000000000 ≤ N) (x1 x2 : Int32) (g43 g64 : (Nat → Int32) → Int64 → (Nat → Nat → Int32) → Int32 → Option (Int32 × (Nat → Int32) × Int64 × (Nat → Nat → Int32))) (S0 : Int) (Q : Int32 × (Nat → Int32) × Int64 × (Nat → Nat → Int32) → Prop) (hg : ∀ (I : Nat → Int32) (L : Int64) (M : Nat → Nat → Int32) (y : Int32), KX12 I M → PS (M 31) → (0 ≤ y.toInt ∧ y.toInt ≤ 1) → sm (M 31) 0 120 + y.toInt ≤ S0 → wq (g64 I L M y) Q) : ∀ (fu : Nat) (I : Nat → Int32) (L : Int64) (M : Nat → Nat → Int32) (y a : Int32), KX12 I M → PS (M 31) → (0 ≤ y.toInt ∧ y.toInt ≤ 1) → sm (M 31) 0 120 + y.toInt ≤ S0 → (0 ≤ a.toInt ∧ a.toInt ≤ 120) → 120 - a.toInt < (fu : Int) → wq (fX12_births_L73 N x1 x2 g43 g64 fu I L M y a) Q := by
  intro fu
  induction fu with
  | zero => intro I L M y a k p hy hs ha hm; exfalso; omega
  | succ fu ih =>
    intro I L M y a k p hy hs ha hm
    rw [fX12_births_L73.eq_2]
    have l_120 := il_120
    have l_0 := il_0
    refine wq_le (fun hc => hg I L M y k p hy hs) (fun hc => ?_)
    exact tt_bi83 hN x1 x2 a ⟨by omega, by omega⟩ g43 g64 _ S0 Q (fun I L M y v k p hy hs hv => ih I L M y v k p hy hs ⟨by omega, by omega⟩ (by omega)) N I L M y (0 : Int32) k p hy hs ⟨by omega, by omega⟩ (by omega)
theorem tt_bi64 {N : Nat} (hN : 3000000000 ≤ N) (x1 x2 : Int32) (hx : -1 ≤ x1.toInt ∧ x1.toInt ≤ 119) (g43 : (Nat → Int32) → Int64 → (Nat → Nat → Int32) → Int32 → Option (Int32 × (Nat → Int32) × Int64 × (Nat → Nat → Int32))) : ∀ (fu : Nat) (I : Nat → Int32) (L : Int64) (M : Nat → Nat → Int32) (y : Int32), KX12 I M → PS (M 31) → (0 ≤ y.toInt ∧ y.toInt ≤ 1) → sm (M 31) 0 120 + y.toInt < (fu : Int) → wq (fX12_births_L64 N x1 x2 g43 fu I L M y) (fun r => KX12 r.2.1 r.2.2.2 ∧ True) := by
  intro fu
  induction fu with
  | zero =>
    intro I L M y k p hy hm
    have a := sm_nng (M 31) p 120 (by omega)
    exfalso; omega
  | succ fu ih =>
    intro I L M y k p hy hm
    rw [fX12_births_L64.eq_2]
    have l_0 := il_0
    have l_m1 := il_m1
    refine wq_eq (fun hc => ?_) (fun hc => ?_)
    · refine wq_eq (fun hc2 => tt_bi211 hN x1 x2 g43 _ N I L M (0 : Int32) (0 : Int32) k ⟨by omega, by omega⟩ (by omega)) (fun hc2 => ?_)
      refine wq_in (n := 120) ⟨by omega, by omega⟩ ?_
      exact wq_s ⟨k, trivial⟩
    · exact tt_bi73 hN x1 x2 g43 _ (sm (M 31) 0 120) _ (fun I L M y k p hy hs => ih I L M y k p hy (by omega)) N I L M (0 : Int32) (0 : Int32) k p ⟨by omega, by omega⟩ (by omega) ⟨by omega, by omega⟩ (by omega)
theorem tt_bi43 {N : Nat} (hN : 3000000000 ≤ N) (x1 x2 : Int32) (hx : -1 ≤ x1.toInt ∧ x1.toInt ≤ 119) : ∀ (fu : Nat) (I : Nat → Int32) (L : Int64) (M : Nat → Nat → Int32) (y : Int32), KX12 I M → (∀ j : Nat, (j : Int) < y.toInt → 0 ≤ (M 31 j).toInt ∧ (M 31 j).toInt ≤ 119) → (0 ≤ y.toInt ∧ y.toInt ≤ 120) → 120 - y.toInt < (fu : Int) → wq (fX12_births_L43 N x1 x2 fu I L M y) (fun r => KX12 r.2.1 r.2.2.2 ∧ True) := by
  intro fu
  induction fu with
  | zero => intro I L M y k p hy hm; exfalso; omega
  | succ fu ih =>
    intro I L M y k p hy hm
    rw [fX12_births_L43.eq_2]
    have l_120 := il_120
    have l_1 := il_1
    refine wq_le (fun hc => ?_) (fun hc => ?_)
    · have p2 : PS (M 31) := fun j hj => p j (by omega)
      have a := sm_nng (M 31) p2 120 (by omega)
      exact tt_bi64 hN x1 x2 hx _ N I L M (1 : Int32) k p2 ⟨by omega, by omega⟩ (by omega)
    · refine wq_in (n := 120) ⟨by omega, by omega⟩ ?_
      refine wq_v (fun M2 e2 => ?_)
      have t5 := ia_add y (1 : Int32) (by omega) (by omega)
      refine wq_v (fun v e => ?_)
      have t6 := congrArg Int32.toInt e
      have c := tn_of y (by omega)
      refine ih I L M2 v (by rw [e2]; exact KX12.sm31 k) (fun j hj => ?_) ⟨by omega, by omega⟩ (by omega)
      have e31 : M2 31 = upd (M 31) y.toNatClampNeg y := by rw [e2]; rfl
      rw [e31]
      unfold upd
      by_cases q : j = y.toNatClampNeg
      · rw [if_pos q]; exact ⟨by omega, by omega⟩
      · rw [if_neg q]; exact p j (by omega)
theorem tt_bi32 {N : Nat} (hN : 3000000000 ≤ N) (x1 x2 z : Int32) (I : Nat → Int32) (L : Int64) (M : Nat → Nat → Int32) (k : KX12 I M) (hx : z.toInt = 0 ∨ (-1 ≤ x1.toInt ∧ x1.toInt ≤ 119)) : wq (fX12_births_J32 N x1 x2 I L M z) (fun r => KX12 r.2.1 r.2.2.2 ∧ True) := by
  unfold fX12_births_J32
  have l_0 := il_0
  have l_1 := il_1
  refine wq_b (tt_fX12_right hN I L M z (1 : Int32) ⟨by omega, by omega⟩ k) (fun r hr => ?_)
  obtain ⟨hr0, -, -, kr, -⟩ := hr
  refine wq_eq (fun hc => wq_s ⟨kr, trivial⟩) (fun hc => ?_)
  exact tt_bi43 hN x1 x2 ⟨by omega, by omega⟩ N _ _ _ (0 : Int32) kr (fun j hj => by exfalso; omega) ⟨by omega, by omega⟩ (by omega)
theorem tt_fX12_births {N : Nat} (hN : 3000000000 ≤ N) (I0 : Nat → Int32) (L0 : Int64) (M0 : Nat → Nat → Int32) (x1 : Int32) (x2 : Int32) (k_I0 : KX12 I0 M0) : wq (fX12_births N I0 L0 M0 x1 x2) (fun r => KX12 r.2.1 r.2.2.2 ∧ True) := by
  unfold fX12_births
  have l_0 := il_0
  have l_1 := il_1
  have l_7 := il_7
  have l_m1 := il_m1
  have l_120 := il_120
  refine wq_v (fun I1 e1 => ?_)
  have k1 : KX12 I1 M0 := by rw [e1]; exact KX12.si0 k_I0
  have j31 : wq (fX12_births_J31 N x1 x2 I1 L0 M0) (fun r => KX12 r.2.1 r.2.2.2 ∧ True) := by
    unfold fX12_births_J31
    exact tt_bi32 hN x1 x2 (0 : Int32) I1 L0 M0 k1 (Or.inl il_0)
  refine wq_b (tt_fX12_within hN x2 (1 : Int32) (7 : Int32)) (fun r _ => ?_)
  refine wq_i (fun _ => j31) (fun _ => ?_)
  refine wq_lt (fun _ => j31) (fun h1 => ?_)
  refine wq_le (fun _ => j31) (fun h2 => ?_)
  exact tt_bi32 hN x1 x2 (1 : Int32) I1 L0 M0 k1 (Or.inr ⟨by omega, by omega⟩)
set_option maxHeartbeats 4000000 in
theorem tt_fX12_count_L81 {N : Nat} (hN : 3000000000 ≤ N) (x1 : Int32) (h_x1 : 2 ≤ x1.toInt ∧ x1.toInt ≤ 5)  : ∀ (fu : Nat) (I0_l81 : (Nat → Int32)) (L0_l81 : Int64) (M0_l81 : (Nat → Nat → Int32)) (y81_2 : Int32) (y81_3 : Int32), (0 ≤ y81_3.toInt ∧ y81_3.toInt ≤ 20) → (KX12 I0_l81 M0_l81) → (20 - y81_3.toInt) < (fu : Int) → wq (fX12_count_L81 N x1 fu I0_l81 L0_l81 M0_l81 y81_2 y81_3) (fun r => KX12 r.2.1 r.2.2.2 ∧ True) := by
  intro fu
  induction fu with
  | zero => intro I0_l81 L0_l81 M0_l81 y81_2 y81_3 h_y81_3 k_I0_l81 hm; exfalso; omega
  | succ fu ih =>
    intro I0_l81 L0_l81 M0_l81 y81_2 y81_3 h_y81_3 k_I0_l81 hm
    rw [fX12_count_L81.eq_2]
    have l_20 := il_20
    refine wq_le (fun hc_63828 => ?_) (fun hc_63829 => ?_)
    · have l_4 := il_4
      refine wq_eq (fun hc_63830 => ?_) (fun hc_63831 => ?_)
      · have t_63832 := KX12.i3 k_I0_l81
        exact wq_s ⟨k_I0_l81, trivial⟩
      · have b_63833 := i32b y81_2
        exact wq_s ⟨k_I0_l81, trivial⟩
    · have l_3 := il_3
      refine wq_eq (fun hc_63834 => ?_) (fun hc_63835 => ?_)
      · refine wq_in (n := 20) ⟨by omega, by omega⟩ ?_
        have l_m1 := il_m1
        refine wq_eq (fun hc_63836 => ?_) (fun hc_63837 => ?_)
        · unfold fX12_count_J103
          have l_5 := il_5
          refine wq_eq (fun hc_63838 => ?_) (fun hc_63839 => ?_)
          · exfalso; omega
          · have b_63841 := i32b y81_2
            have l_0 := il_0
            have t_63842 := ia_add y81_2 (0 : Int32) (by omega) (by omega)
            refine wq_v (fun v1_q63840 h_v1_q63840 => ?_)
            have t_v1_q63840 := congrArg Int32.toInt h_v1_q63840
            have l_1 := il_1
            have t_63844 := ia_add y81_3 (1 : Int32) (by omega) (by omega)
            refine wq_v (fun v2_q63843 h_v2_q63843 => ?_)
            have t_v2_q63843 := congrArg Int32.toInt h_v2_q63843
            have b_63845 := i32b v1_q63840
            exact ih I0_l81 L0_l81 M0_l81 v1_q63840 v2_q63843 ⟨by omega, by omega⟩ k_I0_l81 (by omega)
        · have b_63847 := i32b y81_2
          have l_1 := il_1
          refine wq_v (fun v7_q63846 h_v7_q63846 => ?_)
          have t_v7_q63846 := congrArg Int32.toInt h_v7_q63846
          have t_63849 := ia_add y81_3 (1 : Int32) (by omega) (by omega)
          refine wq_v (fun v8_q63848 h_v8_q63848 => ?_)
          have t_v8_q63848 := congrArg Int32.toInt h_v8_q63848
          have b_63850 := i32b v7_q63846
          exact ih I0_l81 L0_l81 M0_l81 v7_q63846 v8_q63848 ⟨by omega, by omega⟩ k_I0_l81 (by omega)
      · unfold fX12_count_J103
        have l_5 := il_5
        refine wq_eq (fun hc_63851 => ?_) (fun hc_63852 => ?_)
        · refine wq_in (n := 20) ⟨by omega, by omega⟩ ?_
          have l_m1 := il_m1
          refine wq_eq (fun hc_63853 => ?_) (fun hc_63854 => ?_)
          · have b_63856 := i32b y81_2
            have l_0 := il_0
            have t_63857 := ia_add y81_2 (0 : Int32) (by omega) (by omega)
            refine wq_v (fun v3_q63855 h_v3_q63855 => ?_)
            have t_v3_q63855 := congrArg Int32.toInt h_v3_q63855
            have l_1 := il_1
            have t_63859 := ia_add y81_3 (1 : Int32) (by omega) (by omega)
            refine wq_v (fun v4_q63858 h_v4_q63858 => ?_)
            have t_v4_q63858 := congrArg Int32.toInt h_v4_q63858
            have b_63860 := i32b v3_q63855
            exact ih I0_l81 L0_l81 M0_l81 v3_q63855 v4_q63858 ⟨by omega, by omega⟩ k_I0_l81 (by omega)
          · have b_63862 := i32b y81_2
            have l_1 := il_1
            refine wq_v (fun v5_q63861 h_v5_q63861 => ?_)
            have t_v5_q63861 := congrArg Int32.toInt h_v5_q63861
            have t_63864 := ia_add y81_3 (1 : Int32) (by omega) (by omega)
            refine wq_v (fun v6_q63863 h_v6_q63863 => ?_)
            have t_v6_q63863 := congrArg Int32.toInt h_v6_q63863
            have b_63865 := i32b v5_q63861
            exact ih I0_l81 L0_l81 M0_l81 v5_q63861 v6_q63863 ⟨by omega, by omega⟩ k_I0_l81 (by omega)
        · have b_63867 := i32b y81_2
          have l_0 := il_0
          have t_63868 := ia_add y81_2 (0 : Int32) (by omega) (by omega)
          refine wq_v (fun v1_q63866 h_v1_q63866 => ?_)
          have t_v1_q63866 := congrArg Int32.toInt h_v1_q63866
          have l_1 := il_1
          have t_63870 := ia_add y81_3 (1 : Int32) (by omega) (by omega)
          refine wq_v (fun v2_q63869 h_v2_q63869 => ?_)
          have t_v2_q63869 := congrArg Int32.toInt h_v2_q63869
          have b_63871 := i32b v1_q63866
          exact ih I0_l81 L0_l81 M0_l81 v1_q63866 v2_q63869 ⟨by omega, by omega⟩ k_I0_l81 (by omega)
set_option maxHeartbeats 4000000 in
theorem tt_fX12_count_L46 {N : Nat} (hN : 3000000000 ≤ N) (x1 : Int32) (h_x1 : 2 ≤ x1.toInt ∧ x1.toInt ≤ 5)  : ∀ (fu : Nat) (I0_l46 : (Nat → Int32)) (L0_l46 : Int64) (M0_l46 : (Nat → Nat → Int32)) (y46_2 : Int32) (y46_3 : Int32), (0 ≤ y46_3.toInt ∧ y46_3.toInt ≤ 120) → (KX12 I0_l46 M0_l46) → (120 - y46_3.toInt) < (fu : Int) → wq (fX12_count_L46 N x1 fu I0_l46 L0_l46 M0_l46 y46_2 y46_3) (fun r => KX12 r.2.1 r.2.2.2 ∧ True) := by
  intro fu
  induction fu with
  | zero => intro I0_l46 L0_l46 M0_l46 y46_2 y46_3 h_y46_3 k_I0_l46 hm; exfalso; omega
  | succ fu ih =>
    intro I0_l46 L0_l46 M0_l46 y46_2 y46_3 h_y46_3 k_I0_l46 hm
    rw [fX12_count_L46.eq_2]
    have l_120 := il_120
    refine wq_le (fun hc_63872 => ?_) (fun hc_63873 => ?_)
    · unfold fX12_count_J79
      have b_63874 := i32b y46_2
      have l_0 := il_0
      exact tt_fX12_count_L81 hN x1 ⟨by omega, by omega⟩ N I0_l46 L0_l46 M0_l46 y46_2 (0 : Int32) ⟨by omega, by omega⟩ k_I0_l46 (by omega)
    · have l_2 := il_2
      refine wq_eq (fun hc_63875 => ?_) (fun hc_63876 => ?_)
      · refine wq_b (tt_fX12_tells hN I0_l46 L0_l46 M0_l46 y46_3 ⟨by omega, by omega⟩ k_I0_l46) (fun r12_q63877 h_r12_q63877 => ?_)
        obtain ⟨h_r12_q63877_0, -⟩ := h_r12_q63877
        have l_0 := il_0
        refine wq_eq (fun hc_63878 => ?_) (fun hc_63879 => ?_)
        · have b_63881 := i32b y46_2
          have t_63882 := ia_add y46_2 (0 : Int32) (by omega) (by omega)
          refine wq_v (fun v13_q63880 h_v13_q63880 => ?_)
          have t_v13_q63880 := congrArg Int32.toInt h_v13_q63880
          have l_1 := il_1
          have t_63884 := ia_add y46_3 (1 : Int32) (by omega) (by omega)
          refine wq_v (fun v14_q63883 h_v14_q63883 => ?_)
          have t_v14_q63883 := congrArg Int32.toInt h_v14_q63883
          have b_63885 := i32b v13_q63880
          exact ih I0_l46 L0_l46 M0_l46 v13_q63880 v14_q63883 ⟨by omega, by omega⟩ k_I0_l46 (by omega)
        · have b_63887 := i32b y46_2
          have l_1 := il_1
          refine wq_v (fun v15_q63886 h_v15_q63886 => ?_)
          have t_v15_q63886 := congrArg Int32.toInt h_v15_q63886
          have t_63889 := ia_add y46_3 (1 : Int32) (by omega) (by omega)
          refine wq_v (fun v16_q63888 h_v16_q63888 => ?_)
          have t_v16_q63888 := congrArg Int32.toInt h_v16_q63888
          have b_63890 := i32b v15_q63886
          exact ih I0_l46 L0_l46 M0_l46 v15_q63886 v16_q63888 ⟨by omega, by omega⟩ k_I0_l46 (by omega)
      · unfold fX12_count_J79
        have b_63891 := i32b y46_2
        have l_0 := il_0
        exact tt_fX12_count_L81 hN x1 ⟨by omega, by omega⟩ N I0_l46 L0_l46 M0_l46 y46_2 (0 : Int32) ⟨by omega, by omega⟩ k_I0_l46 (by omega)
set_option maxHeartbeats 4000000 in
theorem tt_fX12_count {N : Nat} (hN : 3000000000 ≤ N) (I0 : Nat → Int32) (L0 : Int64) (M0 : Nat → Nat → Int32) (x1 : Int32) (k_I0 : KX12 I0 M0) : wq (fX12_count N I0 L0 M0 x1) (fun r => KX12 r.2.1 r.2.2.2 ∧ True) := by
  unfold fX12_count
  refine wq_v (fun I0_9_q63892 h_I0_9_q63892 => ?_)
  have k_I0_9_q63892 : KX12 I0_9_q63892 M0 := by rw [h_I0_9_q63892]; exact KX12.si0 k_I0
  have b_63893 := i32b x1
  have l_0 := il_0
  have l_5 := il_5
  refine wq_b (tt_fX12_within hN x1 (0 : Int32) (5 : Int32)) (fun r10_q63894 h_r10_q63894 => ?_)
  obtain ⟨h_r10_q63894_0, h_r10_q63894_1, -⟩ := h_r10_q63894
  have l_1 := il_1
  refine wq_b (tt_fX12_right hN I0_9_q63892 L0 M0 r10_q63894 (1 : Int32) ⟨by omega, by omega⟩ k_I0_9_q63892) (fun r11_q63895 h_r11_q63895 => ?_)
  obtain ⟨h_r11_q63895_0, h_r11_q63895_1, h_r11_q63895_2, h_r11_q63895_3, -⟩ := h_r11_q63895
  have t_63896 := KX12.i1 h_r11_q63895_3
  have t_63897 := KX12.i1 k_I0
  have t_63898 : (I0_9_q63892 1).toInt = (I0 1).toInt := by rw [h_I0_9_q63892]; rfl
  refine wq_eq (fun hc_63899 => ?_) (fun hc_63900 => ?_)
  · exact wq_s ⟨h_r11_q63895_3, trivial⟩
  · have l_2 := il_2
    refine wq_le (fun hc_63901 => ?_) (fun hc_63902 => ?_)
    · exact tt_fX12_count_L46 hN x1 ⟨by omega, by omega⟩ N r11_q63895.2.1 r11_q63895.2.2.1 r11_q63895.2.2.2 (0 : Int32) (0 : Int32) ⟨by omega, by omega⟩ h_r11_q63895_3 (by omega)
    · refine wq_eq (fun hc_63903 => ?_) (fun hc_63904 => ?_)
      · exact wq_s ⟨h_r11_q63895_3, trivial⟩
      · have t_63905 := KX12.i2 h_r11_q63895_3
        exact wq_s ⟨h_r11_q63895_3, trivial⟩
set_option maxHeartbeats 4000000 in
theorem tt_fX12_life {N : Nat} (hN : 3000000000 ≤ N) (I0 : Nat → Int32) (L0 : Int64) (M0 : Nat → Nat → Int32) (x1 : Int32) (x2 : Int32) (x3 : Int32) (k_I0 : KX12 I0 M0) : wq (fX12_life N I0 L0 M0 x1 x2 x3) (fun r => (0 ≤ r.1.toInt ∧ r.1.toInt ≤ 1) ∧ KX12 r.2.1 r.2.2.2 ∧ True) := by
  unfold fX12_life
  refine wq_v (fun I0_1_q64020 h_I0_1_q64020 => ?_)
  have k_I0_1_q64020 : KX12 I0_1_q64020 M0 := by rw [h_I0_1_q64020]; exact KX12.si0 k_I0
  have b_64021 := i32b x1
  have l_0 := il_0
  have l_19 := il_19
  refine wq_b (tt_fX12_within hN x1 (0 : Int32) (19 : Int32)) (fun r2_q64022 h_r2_q64022 => ?_)
  obtain ⟨h_r2_q64022_0, h_r2_q64022_1, -⟩ := h_r2_q64022
  have l_1 := il_1
  refine wq_b (tt_fX12_right hN I0_1_q64020 L0 M0 r2_q64022 (1 : Int32) ⟨by omega, by omega⟩ k_I0_1_q64020) (fun r3_q64023 h_r3_q64023 => ?_)
  obtain ⟨h_r3_q64023_0, h_r3_q64023_1, h_r3_q64023_2, h_r3_q64023_3, -⟩ := h_r3_q64023
  have t_64024 := KX12.i1 h_r3_q64023_3
  have t_64025 := KX12.i1 k_I0
  have t_64026 : (I0_1_q64020 1).toInt = (I0 1).toInt := by rw [h_I0_1_q64020]; rfl
  refine wq_eq (fun hc_64027 => ?_) (fun hc_64028 => ?_)
  · exact wq_s ⟨(show 0 ≤ (0 : Int32).toInt ∧ (0 : Int32).toInt ≤ 1 from ⟨by omega, by omega⟩), h_r3_q64023_3, trivial⟩
  · have b_64029 := i32b x2
    have l_120 := il_120
    refine wq_b (tt_fX12_within hN x2 (0 : Int32) (120 : Int32)) (fun r4_q64030 h_r4_q64030 => ?_)
    obtain ⟨h_r4_q64030_0, h_r4_q64030_1, -⟩ := h_r4_q64030
    refine wq_eq (fun hc_64031 => ?_) (fun hc_64032 => ?_)
    · exact wq_s ⟨(show 0 ≤ (0 : Int32).toInt ∧ (0 : Int32).toInt ≤ 1 from ⟨by omega, by omega⟩), h_r3_q64023_3, trivial⟩
    · have b_64033 := i32b x3
      refine wq_b (tt_fX12_within hN x3 (0 : Int32) (120 : Int32)) (fun r5_q64034 h_r5_q64034 => ?_)
      obtain ⟨h_r5_q64034_0, h_r5_q64034_1, -⟩ := h_r5_q64034
      refine wq_eq (fun hc_64035 => ?_) (fun hc_64036 => ?_)
      · exact wq_s ⟨(show 0 ≤ (0 : Int32).toInt ∧ (0 : Int32).toInt ≤ 1 from ⟨by omega, by omega⟩), h_r3_q64023_3, trivial⟩
      · refine wq_in (n := 20) ⟨by omega, by omega⟩ ?_
        refine wq_v (fun M0_6_q64037 h_M0_6_q64037 => ?_)
        have k_M0_6_q64037 : KX12 r3_q64023.2.1 M0_6_q64037 := by rw [h_M0_6_q64037]; exact KX12.sm32 h_r3_q64023_3
        refine wq_in (n := 20) ⟨by omega, by omega⟩ ?_
        refine wq_v (fun M0_7_q64038 h_M0_7_q64038 => ?_)
        have k_M0_7_q64038 : KX12 r3_q64023.2.1 M0_7_q64038 := by rw [h_M0_7_q64038]; exact KX12.sm33 k_M0_6_q64037
        exact wq_s ⟨(show 0 ≤ (1 : Int32).toInt ∧ (1 : Int32).toInt ≤ 1 from ⟨by omega, by omega⟩), k_M0_7_q64038, trivial⟩
set_option maxHeartbeats 4000000 in
theorem tt_fX12_fate {N : Nat} (hN : 3000000000 ≤ N) (I0 : Nat → Int32) (L0 : Int64) (M0 : Nat → Nat → Int32) (x1 : Int32) (x2 : Int32) (k_I0 : KX12 I0 M0) : wq (fX12_fate N I0 L0 M0 x1 x2) (fun r => (0 ≤ r.1.toInt ∧ r.1.toInt ≤ 1) ∧ KX12 r.2.1 r.2.2.2 ∧ True) := by
  unfold fX12_fate
  refine wq_v (fun I0_1_q64123 h_I0_1_q64123 => ?_)
  have k_I0_1_q64123 : KX12 I0_1_q64123 M0 := by rw [h_I0_1_q64123]; exact KX12.si0 k_I0
  have b_64124 := i32b x1
  have l_0 := il_0
  have l_19 := il_19
  refine wq_b (tt_fX12_within hN x1 (0 : Int32) (19 : Int32)) (fun r2_q64125 h_r2_q64125 => ?_)
  obtain ⟨h_r2_q64125_0, h_r2_q64125_1, -⟩ := h_r2_q64125
  have l_1 := il_1
  refine wq_b (tt_fX12_right hN I0_1_q64123 L0 M0 r2_q64125 (1 : Int32) ⟨by omega, by omega⟩ k_I0_1_q64123) (fun r3_q64126 h_r3_q64126 => ?_)
  obtain ⟨h_r3_q64126_0, h_r3_q64126_1, h_r3_q64126_2, h_r3_q64126_3, -⟩ := h_r3_q64126
  have t_64127 := KX12.i1 h_r3_q64126_3
  have t_64128 := KX12.i1 k_I0
  have t_64129 : (I0_1_q64123 1).toInt = (I0 1).toInt := by rw [h_I0_1_q64123]; rfl
  refine wq_eq (fun hc_64130 => ?_) (fun hc_64131 => ?_)
  · exact wq_s ⟨(show 0 ≤ (0 : Int32).toInt ∧ (0 : Int32).toInt ≤ 1 from ⟨by omega, by omega⟩), h_r3_q64126_3, trivial⟩
  · have b_64132 := i32b x2
    have l_12 := il_12
    refine wq_b (tt_fX12_within hN x2 (1 : Int32) (12 : Int32)) (fun r4_q64133 h_r4_q64133 => ?_)
    obtain ⟨h_r4_q64133_0, h_r4_q64133_1, -⟩ := h_r4_q64133
    refine wq_eq (fun hc_64134 => ?_) (fun hc_64135 => ?_)
    · exact wq_s ⟨(show 0 ≤ (0 : Int32).toInt ∧ (0 : Int32).toInt ≤ 1 from ⟨by omega, by omega⟩), h_r3_q64126_3, trivial⟩
    · refine wq_in (n := 20) ⟨by omega, by omega⟩ ?_
      refine wq_v (fun M0_5_q64136 h_M0_5_q64136 => ?_)
      have k_M0_5_q64136 : KX12 r3_q64126.2.1 M0_5_q64136 := by rw [h_M0_5_q64136]; exact KX12.sm34 h_r3_q64126_3
      exact wq_s ⟨(show 0 ≤ (1 : Int32).toInt ∧ (1 : Int32).toInt ≤ 1 from ⟨by omega, by omega⟩), k_M0_5_q64136, trivial⟩
set_option maxHeartbeats 4000000 in
theorem tt_fX12_isHit {N : Nat} (hN : 3000000000 ≤ N) (I0 : Nat → Int32) (L0 : Int64) (M0 : Nat → Nat → Int32) (x1 : Int32) (x2 : Int32) (x3 : Int32) (h_x1 : 0 ≤ x1.toInt ∧ x1.toInt ≤ 19) (h_x2 : 0 ≤ x2.toInt ∧ x2.toInt ≤ 19) (k_I0 : KX12 I0 M0) : wq (fX12_isHit N I0 L0 M0 x1 x2 x3) (fun r => (0 ≤ r.toInt ∧ r.toInt ≤ 1) ∧ True) := by
  unfold fX12_isHit
  refine wq_in (n := 20) ⟨by omega, by omega⟩ ?_
  refine wq_in (n := 20) ⟨by omega, by omega⟩ ?_
  refine wq_v (fun v1_q64179 h_v1_q64179 => ?_)
  have t_v1_q64179 := congrArg Int32.toInt h_v1_q64179
  have b_64180 := i32b x3
  have b_64181 := i32b v1_q64179
  refine wq_lt (fun hc_64182 => ?_) (fun hc_64183 => ?_)
  · have l_0 := il_0
    exact wq_s ⟨(show 0 ≤ (0 : Int32).toInt ∧ (0 : Int32).toInt ≤ 1 from ⟨by omega, by omega⟩), trivial⟩
  · refine wq_lt (fun hc_64184 => ?_) (fun hc_64185 => ?_)
    · have l_0 := il_0
      exact wq_s ⟨(show 0 ≤ (0 : Int32).toInt ∧ (0 : Int32).toInt ≤ 1 from ⟨by omega, by omega⟩), trivial⟩
    · have l_1 := il_1
      exact wq_s ⟨(show 0 ≤ (1 : Int32).toInt ∧ (1 : Int32).toInt ≤ 1 from ⟨by omega, by omega⟩), trivial⟩
set_option maxHeartbeats 4000000 in
theorem tt_fX12_isTold {N : Nat} (hN : 3000000000 ≤ N) (I0 : Nat → Int32) (L0 : Int64) (M0 : Nat → Nat → Int32) (x1 : Int32) (x2 : Int32) (h_x1 : 0 ≤ x1.toInt ∧ x1.toInt ≤ 19) (h_x2 : 0 ≤ x2.toInt ∧ x2.toInt ≤ 19) (k_I0 : KX12 I0 M0) : wq (fX12_isTold N I0 L0 M0 x1 x2) (fun r => (0 ≤ r.toInt ∧ r.toInt ≤ 1) ∧ True) := by
  unfold fX12_isTold
  have l_7 := il_7
  refine wq_b (tt_fX12_at hN I0 L0 M0 x1 (7 : Int32) ⟨by omega, by omega⟩ ⟨by omega, by omega⟩ k_I0) (fun r1_q64252 h_r1_q64252 => ?_)
  obtain ⟨h_r1_q64252_0, h_r1_q64252_1, h_r1_q64252_2, -⟩ := h_r1_q64252
  have l_8 := il_8
  refine wq_b (tt_fX12_at hN I0 L0 M0 x1 (8 : Int32) ⟨by omega, by omega⟩ ⟨by omega, by omega⟩ k_I0) (fun r2_q64253 h_r2_q64253 => ?_)
  obtain ⟨h_r2_q64253_0, h_r2_q64253_1, h_r2_q64253_2, -⟩ := h_r2_q64253
  have l_m1 := il_m1
  refine wq_eq (fun hc_64254 => ?_) (fun hc_64255 => ?_)
  · have l_0 := il_0
    exact wq_s ⟨(show 0 ≤ (0 : Int32).toInt ∧ (0 : Int32).toInt ≤ 1 from ⟨by omega, by omega⟩), trivial⟩
  · refine wq_eq (fun hc_64256 => ?_) (fun hc_64257 => ?_)
    · have l_0 := il_0
      exact wq_s ⟨(show 0 ≤ (0 : Int32).toInt ∧ (0 : Int32).toInt ≤ 1 from ⟨by omega, by omega⟩), trivial⟩
    · refine wq_in (n := 20) ⟨by omega, by omega⟩ ?_
      have l_30 := il_30
      have t_64258 := ia_div r2_q64253 (30 : Int32) 30 il_30 (by decide) (by omega)
      have t_64259 := ia_div r1_q64252 (30 : Int32) 30 il_30 (by decide) (by omega)
      have l_1 := il_1
      have l_12 := il_12
      have t_64260 := ia_rem2 (((r1_q64252 / (30 : Int32)) + (M0 34 x2.toNatClampNeg)) - (1 : Int32)) (12 : Int32) 12 il_12 (by decide)
      refine wq_eq (fun hc_64261 => ?_) (fun hc_64262 => ?_)
      · exact wq_s ⟨(show 0 ≤ (1 : Int32).toInt ∧ (1 : Int32).toInt ≤ 1 from ⟨by omega, by omega⟩), trivial⟩
      · have l_0 := il_0
        exact wq_s ⟨(show 0 ≤ (0 : Int32).toInt ∧ (0 : Int32).toInt ≤ 1 from ⟨by omega, by omega⟩), trivial⟩
set_option maxHeartbeats 4000000 in
theorem tt_fX12_hitsBy_L4 {N : Nat} (hN : 3000000000 ≤ N) (I0 : Nat → Int32) (L0 : Int64) (M0 : Nat → Nat → Int32) (x1 : Int32) (k_I0 : KX12 I0 M0)  : ∀ (fu : Nat) (y4_2 : Int32) (y4_3 : Int32), (0 ≤ y4_3.toInt ∧ y4_3.toInt ≤ 20) → (20 - y4_3.toInt) < (fu : Int) → wq (fX12_hitsBy_L4 N I0 L0 M0 x1 fu y4_2 y4_3) (fun r => True) := by
  intro fu
  induction fu with
  | zero => intro y4_2 y4_3 h_y4_3 hm; exfalso; omega
  | succ fu ih =>
    intro y4_2 y4_3 h_y4_3 hm
    rw [fX12_hitsBy_L4.eq_2]
    have t_64701 := KX12.i19 k_I0
    refine wq_le (fun hc_64702 => ?_) (fun hc_64703 => ?_)
    · have b_64704 := i32b y4_2
      exact wq_s trivial
    · have l_0 := il_0
      have b_64705 := i32b x1
      refine wq_le (fun hc_64706 => ?_) (fun hc_64707 => ?_)
      · refine wq_in (n := 20) ⟨by omega, by omega⟩ ?_
        refine wq_in (n := 20) ⟨by omega, by omega⟩ ?_
        have t_64708 := KX12.m36 k_I0 y4_3.toNatClampNeg
        refine wq_in (n := 20) ⟨by omega, by omega⟩ ?_
        have t_64709 := KX12.m35 k_I0 y4_3.toNatClampNeg
        have t_64710 := KX12.m35 k_I0 ((M0 36 y4_3.toNatClampNeg)).toNatClampNeg
        refine wq_b (tt_fX12_isHit hN I0 L0 M0 (M0 35 y4_3.toNatClampNeg) (M0 35 (M0 36 y4_3.toNatClampNeg).toNatClampNeg) x1 ⟨by omega, by omega⟩ ⟨by omega, by omega⟩ k_I0) (fun r1_q64711 h_r1_q64711 => ?_)
        obtain ⟨h_r1_q64711_0, -⟩ := h_r1_q64711
        refine wq_eq (fun hc_64712 => ?_) (fun hc_64713 => ?_)
        · have b_64715 := i32b y4_2
          have t_64716 := ia_add y4_2 (0 : Int32) (by omega) (by omega)
          refine wq_v (fun v2_q64714 h_v2_q64714 => ?_)
          have t_v2_q64714 := congrArg Int32.toInt h_v2_q64714
          have l_1 := il_1
          have t_64718 := ia_add y4_3 (1 : Int32) (by omega) (by omega)
          refine wq_v (fun v3_q64717 h_v3_q64717 => ?_)
          have t_v3_q64717 := congrArg Int32.toInt h_v3_q64717
          have b_64719 := i32b v2_q64714
          exact ih v2_q64714 v3_q64717 ⟨by omega, by omega⟩ (by omega)
        · have b_64721 := i32b y4_2
          have l_1 := il_1
          refine wq_v (fun v4_q64720 h_v4_q64720 => ?_)
          have t_v4_q64720 := congrArg Int32.toInt h_v4_q64720
          have t_64723 := ia_add y4_3 (1 : Int32) (by omega) (by omega)
          refine wq_v (fun v5_q64722 h_v5_q64722 => ?_)
          have t_v5_q64722 := congrArg Int32.toInt h_v5_q64722
          have b_64724 := i32b v4_q64720
          exact ih v4_q64720 v5_q64722 ⟨by omega, by omega⟩ (by omega)
      · refine wq_in (n := 20) ⟨by omega, by omega⟩ ?_
        refine wq_in (n := 20) ⟨by omega, by omega⟩ ?_
        have t_64725 := KX12.m36 k_I0 y4_3.toNatClampNeg
        refine wq_in (n := 20) ⟨by omega, by omega⟩ ?_
        have t_64726 := KX12.m35 k_I0 y4_3.toNatClampNeg
        have t_64727 := KX12.m35 k_I0 ((M0 36 y4_3.toNatClampNeg)).toNatClampNeg
        refine wq_b (tt_fX12_isTold hN I0 L0 M0 (M0 35 y4_3.toNatClampNeg) (M0 35 (M0 36 y4_3.toNatClampNeg).toNatClampNeg) ⟨by omega, by omega⟩ ⟨by omega, by omega⟩ k_I0) (fun r6_q64728 h_r6_q64728 => ?_)
        obtain ⟨h_r6_q64728_0, -⟩ := h_r6_q64728
        refine wq_eq (fun hc_64729 => ?_) (fun hc_64730 => ?_)
        · have b_64732 := i32b y4_2
          have t_64733 := ia_add y4_2 (0 : Int32) (by omega) (by omega)
          refine wq_v (fun v7_q64731 h_v7_q64731 => ?_)
          have t_v7_q64731 := congrArg Int32.toInt h_v7_q64731
          have l_1 := il_1
          have t_64735 := ia_add y4_3 (1 : Int32) (by omega) (by omega)
          refine wq_v (fun v8_q64734 h_v8_q64734 => ?_)
          have t_v8_q64734 := congrArg Int32.toInt h_v8_q64734
          have b_64736 := i32b v7_q64731
          exact ih v7_q64731 v8_q64734 ⟨by omega, by omega⟩ (by omega)
        · have b_64738 := i32b y4_2
          have l_1 := il_1
          refine wq_v (fun v9_q64737 h_v9_q64737 => ?_)
          have t_v9_q64737 := congrArg Int32.toInt h_v9_q64737
          have t_64740 := ia_add y4_3 (1 : Int32) (by omega) (by omega)
          refine wq_v (fun v10_q64739 h_v10_q64739 => ?_)
          have t_v10_q64739 := congrArg Int32.toInt h_v10_q64739
          have b_64741 := i32b v9_q64737
          exact ih v9_q64737 v10_q64739 ⟨by omega, by omega⟩ (by omega)
set_option maxHeartbeats 4000000 in
theorem tt_fX12_hitsBy {N : Nat} (hN : 3000000000 ≤ N) (I0 : Nat → Int32) (L0 : Int64) (M0 : Nat → Nat → Int32) (x1 : Int32) (k_I0 : KX12 I0 M0) : wq (fX12_hitsBy N I0 L0 M0 x1) (fun r => True) := by
  unfold fX12_hitsBy
  have b_64742 := i32b x1
  have l_0 := il_0
  exact tt_fX12_hitsBy_L4 hN I0 L0 M0 x1 k_I0 N (0 : Int32) (0 : Int32) ⟨by omega, by omega⟩ (by omega)
def PI9 (n : Nat) (f : Nat → Int32) : Prop := (∀ k : Nat, k < n → 0 ≤ (f k).toInt ∧ (f k).toInt ≤ 7) ∧ ∀ a b : Nat, a < n → b < n → f a = f b → a = b
def sw9 (f : Nat → Int32) (a b : Nat) : Nat → Int32 := upd (upd f a (f b)) b (f a)
theorem sw_at (f : Nat → Int32) (a b k : Nat) : sw9 f a b k = if k = b then f a else if k = a then f b else f k := rfl
theorem PI9.sw {n : Nat} {f : Nat → Int32} (h : PI9 n f) {a b : Nat} (ha : a < n) (hb : b < n) : PI9 n (sw9 f a b) := by
  have key : ∀ k : Nat, k < n → ∃ q : Nat, q < n ∧ sw9 f a b k = f q ∧ ((k = b ∧ q = a) ∨ (k ≠ b ∧ k = a ∧ q = b) ∨ (k ≠ b ∧ k ≠ a ∧ q = k)) := by
    intro k hk
    by_cases h1 : k = b
    · exact ⟨a, ha, by rw [sw_at, if_pos h1], Or.inl ⟨h1, rfl⟩⟩
    · by_cases h2 : k = a
      · exact ⟨b, hb, by rw [sw_at, if_neg h1, if_pos h2], Or.inr (Or.inl ⟨h1, h2, rfl⟩)⟩
      · exact ⟨k, hk, by rw [sw_at, if_neg h1, if_neg h2], Or.inr (Or.inr ⟨h1, h2, rfl⟩)⟩
  refine ⟨fun k hk => ?_, fun c d hc hd e => ?_⟩
  · obtain ⟨q, hq, e, -⟩ := key k hk
    rw [e]; exact h.1 q hq
  · obtain ⟨q1, hq1, e1, c1⟩ := key c hc
    obtain ⟨q2, hq2, e2, c2⟩ := key d hd
    rw [e1, e2] at e
    have := h.2 q1 q2 hq1 hq2 e
    omega
def vl (f : Nat → Int32) : Nat → Int
  | 0 => 0
  | n + 1 => 8 * vl f n + (f n).toInt
def p8 : Nat → Int
  | 0 => 1
  | n + 1 => 8 * p8 n
theorem p8_le : ∀ n : Nat, n ≤ 8 → p8 n ≤ 16777216 := by decide
theorem vl_cg (f g : Nat → Int32) : ∀ n : Nat, (∀ k : Nat, k < n → g k = f k) → vl g n = vl f n := by
  intro n
  induction n with
  | zero => intro _; rfl
  | succ n ih =>
    intro h
    show 8 * vl g n + (g n).toInt = 8 * vl f n + (f n).toInt
    rw [ih (fun k hk => h k (by omega)), h n (by omega)]
theorem vl_lt (f g : Nat → Int32) (i : Nat) : ∀ n : Nat, i < n → (∀ k : Nat, k < n → 0 ≤ (f k).toInt ∧ (f k).toInt ≤ 7) → (∀ k : Nat, k < n → 0 ≤ (g k).toInt ∧ (g k).toInt ≤ 7) → (∀ k : Nat, k < i → g k = f k) → (f i).toInt < (g i).toInt → vl f n < vl g n := by
  intro n
  induction n with
  | zero => intro h; exact absurd h (by omega)
  | succ n ih =>
    intro hi hf hg he hl
    show 8 * vl f n + (f n).toInt < 8 * vl g n + (g n).toInt
    by_cases q : i = n
    · subst q
      rw [vl_cg f g i he]; omega
    · have a := ih (by omega) (fun k hk => hf k (by omega)) (fun k hk => hg k (by omega)) he hl
      have b := hf n (by omega)
      have c := hg n (by omega)
      omega
theorem vl_b (f : Nat → Int32) : ∀ n : Nat, (∀ k : Nat, k < n → 0 ≤ (f k).toInt ∧ (f k).toInt ≤ 7) → 0 ≤ vl f n ∧ vl f n < p8 n := by
  intro n
  induction n with
  | zero => intro _; exact ⟨Int.le_refl 0, (by decide : (0 : Int) < 1)⟩
  | succ n ih =>
    intro h
    have a := ih (fun k hk => h k (by omega))
    have b := h n (by omega)
    show 0 ≤ 8 * vl f n + (f n).toInt ∧ 8 * vl f n + (f n).toInt < 8 * p8 n
    omega
theorem tu_swaps (N : Nat) (I : Nat → Int32) (L : Int64) (M : Nat → Nat → Int32) (x y : Int32) (hx : 0 ≤ x.toInt ∧ x.toInt ≤ 19) (hy : 0 ≤ y.toInt ∧ y.toInt ≤ 19) (k : KX12 I M) : wq (fX12_swaps N I L M x y) (fun r => r.1 = I ∧ KX12 r.1 r.2.2 ∧ r.2.2 36 = sw9 (M 36) x.toNatClampNeg y.toNatClampNeg) := by
  unfold fX12_swaps
  refine wq_in (n := 20) ⟨by omega, by omega⟩ ?_
  refine wq_v (fun v1 e1 => ?_)
  refine wq_in (n := 20) ⟨by omega, by omega⟩ ?_
  refine wq_in (n := 20) ⟨by omega, by omega⟩ ?_
  refine wq_v (fun M2 e2 => ?_)
  refine wq_in (n := 20) ⟨by omega, by omega⟩ ?_
  refine wq_v (fun M3 e3 => ?_)
  refine wq_s ⟨rfl, ?_, ?_⟩
  · show KX12 I M3
    rw [e3, e2, e1]
    exact KX12.sm36 (KX12.sm36 k (k.m36 _)) (k.m36 _)
  · show M3 36 = _
    rw [e3, e2, e1]
    rfl
theorem tu_86 {N : Nat} (g47 : (Nat → Int32) → Int64 → (Nat → Nat → Int32) → Int32 → Option (Int32 × (Nat → Int32) × Int64 × (Nat → Nat → Int32))) (n i : Nat) (hn : n ≤ 8) (Mo : Nat → Int32) : ∀ (fu : Nat) (I : Nat → Int32) (L : Int64) (M : Nat → Nat → Int32) (x y : Int32), KX12 I M → PI9 n (M 36) → (∀ k : Nat, k ≤ i → M 36 k = Mo k) → (i : Int) < x.toInt → x.toInt ≤ 20 → -20 ≤ y.toInt → y.toInt < (n : Int) → y.toInt - x.toInt < (fu : Int) → 0 < fu → wq (fX12_turns_L86 N g47 fu I L M x y) (fun r => r.1.toInt = 1 ∧ r.2.1 = I ∧ KX12 r.2.1 r.2.2.2 ∧ PI9 n (r.2.2.2 36) ∧ ∀ k : Nat, k ≤ i → r.2.2.2 36 k = Mo k) := by
  intro fu
  induction fu with
  | zero => intro I L M x y k p ho h1 h2 h3 h4 h5 h6; exact absurd h6 (by decide)
  | succ fu ih =>
    intro I L M x y k p ho h1 h2 h3 h4 h5 h6
    rw [fX12_turns_L86.eq_2]
    have l_1 := il_1
    have l_m1 := il_m1
    refine wq_le (fun hc => wq_s ⟨il_1, rfl, k, p, ho⟩) (fun hc => ?_)
    refine wq_b (tu_swaps N I L M x y ⟨by omega, by omega⟩ ⟨by omega, by omega⟩ k) (fun r hr => ?_)
    obtain ⟨hr1, hr2, hr3⟩ := hr
    refine wq_v (fun v1 e1 => ?_)
    refine wq_v (fun v2 e2 => ?_)
    have t3 := (congrArg Int32.toInt e1).trans (ia_add x (1 : Int32) (by omega) (by omega))
    have t4 := (congrArg Int32.toInt e2).trans (ia_add y ((-1) : Int32) (by omega) (by omega))
    have cx := tn_of x (by omega)
    have cy := tn_of y (by omega)
    refine wq_w (ih r.1 r.2.1 r.2.2 v1 v2 hr2 (by rw [hr3]; exact PI9.sw p (by omega) (by omega)) (fun k hk => ?_) (by omega) (by omega) (by omega) (by omega) (by omega) (by omega)) (fun q hq => ?_)
    · rw [hr3, sw_at, if_neg (show ¬ k = y.toNatClampNeg by omega), if_neg (show ¬ k = x.toNatClampNeg by omega)]
      exact ho k hk
    · exact ⟨hq.1, hq.2.1.trans hr1, hq.2.2.1, hq.2.2.2.1, hq.2.2.2.2⟩
theorem tu_47 {N : Nat} (hN : 3000000000 ≤ N) (n : Nat) (i : Int32) (hn : n ≤ 8) (hi : 0 ≤ i.toInt) : ∀ (fu : Nat) (I : Nat → Int32) (L : Int64) (M : Nat → Nat → Int32) (j : Int32), KX12 I M → PI9 n (M 36) → (I 19).toInt = (n : Int) → (M 36 i.toNatClampNeg).toInt ≤ (M 36 (i.toNatClampNeg + 1)).toInt → (i.toInt < j.toInt ∧ j.toInt < (n : Int)) → j.toInt - i.toInt < (fu : Int) → wq (fX12_turns_L47 N i fu I L M j) (fun r => r.1.toInt = 1 ∧ r.2.1 = I ∧ KX12 r.2.1 r.2.2.2 ∧ PI9 n (r.2.2.2 36) ∧ vl (M 36) n < vl (r.2.2.2 36) n) := by
  intro fu
  induction fu with
  | zero => intro I L M j k p h9 hu hj hm; exfalso; omega
  | succ fu ih =>
    intro I L M j k p h9 hu hj hm
    rw [fX12_turns_L47.eq_2]
    have l_1 := il_1
    have l_m1 := il_m1
    have ci := tn_of i (by omega)
    have cj := tn_of j (by omega)
    refine wq_in (n := 20) ⟨by omega, by omega⟩ ?_
    refine wq_in (n := 20) ⟨by omega, by omega⟩ ?_
    refine wq_le (fun hc => ?_) (fun hc => ?_)
    · refine wq_b (tu_swaps N I L M i j ⟨by omega, by omega⟩ ⟨by omega, by omega⟩ k) (fun r hr => ?_)
      obtain ⟨hr1, hr2, hr3⟩ := hr
      have h19 : (r.1 19).toInt = (n : Int) := by rw [hr1]; exact h9
      refine wq_v (fun v1 e1 => ?_)
      refine wq_v (fun v2 e2 => ?_)
      have t3 := (congrArg Int32.toInt e1).trans (ia_add i (1 : Int32) (by omega) (by omega))
      have t4 := (congrArg Int32.toInt e2).trans (ia_sub (r.1 19) (1 : Int32) (by omega) (by omega))
      have ps : PI9 n (r.2.2 36) := by rw [hr3]; exact PI9.sw p (by omega) (by omega)
      refine wq_w (tu_86 _ n i.toNatClampNeg hn (r.2.2 36) N r.1 r.2.1 r.2.2 v1 v2 hr2 ps (fun _ _ => rfl) (by omega) (by omega) (by omega) (by omega) (by omega) (by omega)) (fun q hq => ?_)
      obtain ⟨q1, q2, q3, q4, q5⟩ := hq
      refine ⟨q1, q2.trans hr1, q3, q4, ?_⟩
      refine vl_lt (M 36) (q.2.2.2 36) i.toNatClampNeg n (by omega) p.1 q4.1 (fun k hk => ?_) ?_
      · rw [q5 k (by omega), hr3, sw_at, if_neg (show ¬ k = j.toNatClampNeg by omega), if_neg (show ¬ k = i.toNatClampNeg by omega)]
      · rw [q5 _ (Nat.le_refl _), hr3, sw_at, if_neg (show ¬ i.toNatClampNeg = j.toNatClampNeg by omega), if_pos rfl]
        have ne : (M 36 i.toNatClampNeg).toInt ≠ (M 36 j.toNatClampNeg).toInt := fun e => by
          have := p.2 _ _ (show i.toNatClampNeg < n by omega) (show j.toNatClampNeg < n by omega) (Int32.toInt_inj.mp e)
          omega
        omega
    · refine wq_v (fun v1 e1 => ?_)
      have t3 := (congrArg Int32.toInt e1).trans (ia_add j ((-1) : Int32) (by omega) (by omega))
      have hne : i.toInt + 1 ≠ j.toInt := fun e => by
        have e9 : j.toNatClampNeg = i.toNatClampNeg + 1 := by omega
        rw [e9] at hc
        omega
      exact ih I L M v1 k p h9 hu ⟨by omega, by omega⟩ (by omega)
def TP (n : Nat) (I : Nat → Int32) (M : Nat → Nat → Int32) (r : Int32 × (Nat → Int32) × Int64 × (Nat → Nat → Int32)) : Prop := KX12 r.2.1 r.2.2.2 ∧ r.2.1 = I ∧ (r.1.toInt = 0 ∨ (r.1.toInt = 1 ∧ PI9 n (r.2.2.2 36) ∧ vl (M 36) n < vl (r.2.2.2 36) n))
theorem tu_7 {N : Nat} (hN : 3000000000 ≤ N) (n : Nat) (hn : n ≤ 8) : ∀ (fu : Nat) (I : Nat → Int32) (L : Int64) (M : Nat → Nat → Int32) (y : Int32), KX12 I M → PI9 n (M 36) → (I 19).toInt = (n : Int) → (-2 ≤ y.toInt ∧ y.toInt ≤ (n : Int) - 2) → y.toInt + 2 < (fu : Int) → wq (fX12_turns_L7 N fu I L M y) (TP n I M) := by
  intro fu
  induction fu with
  | zero => intro I L M y k p h9 hy hm; exfalso; omega
  | succ fu ih =>
    intro I L M y k p h9 hy hm
    rw [fX12_turns_L7.eq_2]
    have l_0 := il_0
    have l_1 := il_1
    have l_m1 := il_m1
    refine wq_lt (fun hc => ?_) (fun hc => ?_)
    · unfold fX12_turns_J34
      exact wq_le (fun hc2 => by exfalso; omega) (fun hc2 => wq_s ⟨k, rfl, Or.inl il_0⟩)
    · have t1 := ia_add y (1 : Int32) (by omega) (by omega)
      have c1 := tn_of y (by omega)
      have c2 := tn_of (y + (1 : Int32)) (by omega)
      refine wq_in (n := 20) ⟨by omega, by omega⟩ ?_
      refine wq_in (n := 20) ⟨by omega, by omega⟩ ?_
      have e9 : (y + (1 : Int32)).toNatClampNeg = y.toNatClampNeg + 1 := by omega
      refine wq_le (fun hc2 => ?_) (fun hc2 => ?_)
      · unfold fX12_turns_J34
        refine wq_le (fun hc3 => ?_) (fun hc3 => by exfalso; omega)
        refine wq_v (fun v1 e1 => ?_)
        have t3 := (congrArg Int32.toInt e1).trans (ia_sub (I 19) (1 : Int32) (by omega) (by omega))
        rw [e9] at hc2
        exact wq_w (tu_47 hN n y hn (by omega) N I L M v1 k p h9 hc2 ⟨by omega, by omega⟩ (by omega)) (fun q hq => ⟨hq.2.2.1, hq.2.1, Or.inr ⟨hq.1, hq.2.2.2.1, hq.2.2.2.2⟩⟩)
      · refine wq_v (fun v1 e1 => ?_)
        have t3 := (congrArg Int32.toInt e1).trans (ia_add y ((-1) : Int32) (by omega) (by omega))
        exact ih I L M v1 k p h9 ⟨by omega, by omega⟩ (by omega)
theorem tu_turns {N : Nat} (hN : 3000000000 ≤ N) (n : Nat) (hn : n ≤ 8) (I : Nat → Int32) (L : Int64) (M : Nat → Nat → Int32) (k : KX12 I M) (p : PI9 n (M 36)) (h9 : (I 19).toInt = (n : Int)) : wq (fX12_turns N I L M) (TP n I M) := by
  unfold fX12_turns
  have l_2 := il_2
  have t2 := ia_sub (I 19) (2 : Int32) (by omega) (by omega)
  refine wq_v (fun v1 e1 => ?_)
  have t3 := congrArg Int32.toInt e1
  exact tu_7 hN n hn N I L M v1 k p h9 ⟨by omega, by omega⟩ (by omega)
theorem tu_97_133 {N : Nat} (hN : 3000000000 ≤ N) (x2 x3 r2 : Int32) (g8 : (Nat → Int32) → Int64 → (Nat → Nat → Int32) → Int32 → Option (Int32 × (Nat → Int32) × Int64 × (Nat → Nat → Int32))) (n : Nat) (hn : n ≤ 8) : ∀ (fu : Nat) (I : Nat → Int32) (L : Int64) (M : Nat → Nat → Int32) (y5 y6 : Int32), KX12 I M → 0 < fu → (y6.toInt = 0 ∨ (y6.toInt = 1 ∧ PI9 n (M 36) ∧ (I 19).toInt = (n : Int) ∧ 16777217 - vl (M 36) n < (fu : Int))) → wq (fX12_asks_133_L97 N x2 x3 r2 g8 fu I L M y5 y6) (fun r => KX12 r.2.1 r.2.2.2 ∧ True) := by
  intro fu
  induction fu with
  | zero => intro I L M y5 y6 k h0 h; exact absurd h0 (by decide)
  | succ fu ih =>
    intro I L M y5 y6 k h0 h
    rw [fX12_asks_133_L97.eq_2]
    have l_0 := il_0
    refine wq_eq (fun hc => wq_s ⟨k, trivial⟩) (fun hc => ?_)
    obtain ⟨h1, p, h9, hm⟩ : y6.toInt = 1 ∧ PI9 n (M 36) ∧ (I 19).toInt = (n : Int) ∧ 16777217 - vl (M 36) n < ((fu + 1 : Nat) : Int) := by
      rcases h with q | q
      · exfalso; omega
      · exact q
    have vb := vl_b (M 36) n p.1
    have p8 := p8_le n hn
    have nx : ∀ (w v : Int32) (r : Int32 × (Nat → Int32) × Int64 × (Nat → Nat → Int32)), TP n I M r → v = r.1 → wq (fX12_asks_133_L97 N x2 x3 r2 g8 fu r.2.1 r.2.2.1 r.2.2.2 w v) (fun r => KX12 r.2.1 r.2.2.2 ∧ True) := by
      intro w v r hr e
      obtain ⟨kr, er, hr⟩ := hr
      refine ih r.2.1 r.2.2.1 r.2.2.2 w v kr (by omega) ?_
      rw [e]
      rcases hr with q | ⟨q1, q2, q3⟩
      · exact Or.inl q
      · exact Or.inr ⟨q1, q2, by rw [er]; exact h9, by omega⟩
    refine wq_b (tt_fX12_hitsBy hN I L M x3 k) (fun r3 _ => ?_)
    refine wq_i (fun _ => ?_) (fun _ => ?_)
    · exact wq_b (tu_turns hN n hn I L M k p h9) (fun r hr => wq_v (fun v e => nx _ v r hr e))
    · exact wq_v (fun w _ => wq_b (tu_turns hN n hn I L M k p h9) (fun r hr => wq_v (fun v e => nx w v r hr e)))
theorem tu_8_133 {N : Nat} (hN : 3000000000 ≤ N) (x2 x3 : Int32) : ∀ (fu : Nat) (I : Nat → Int32) (L : Int64) (M : Nat → Nat → Int32) (y : Int32), KX12 I M → (0 ≤ y.toInt ∧ y.toInt ≤ 20) → (I 19).toInt ≤ y.toInt → (∀ k : Nat, (k : Int) < (I 19).toInt → (M 36 k).toInt = (k : Int)) → 20 - y.toInt < (fu : Int) → wq (fX12_asks_133_L8 N x2 x3 fu I L M y) (fun r => KX12 r.2.1 r.2.2.2 ∧ True) := by
  intro fu
  induction fu with
  | zero => intro I L M y k hy h9 hk hm; exfalso; omega
  | succ fu ih =>
    intro I L M y k hy h9 hk hm
    rw [fX12_asks_133_L8.eq_2]
    have l_20 := il_20
    have l_8 := il_8
    have l_1 := il_1
    have i19 := k.i19
    refine wq_le (fun hc => ?_) (fun hc => ?_)
    · refine wq_b (tt_fX12_hitsBy hN I L M x3 k) (fun r2 _ => ?_)
      refine wq_i (fun _ => wq_s ⟨k, trivial⟩) (fun _ => ?_)
      refine wq_le (fun hc2 => ?_) (fun hc2 => wq_s ⟨k, trivial⟩)
      have p : PI9 (I 19).toInt.toNat (M 36) := by
        refine ⟨fun j hj => ?_, fun a b ha hb e => ?_⟩
        · have := hk j (by omega)
          omega
        · have h1 := hk a (by omega)
          have h2 := hk b (by omega)
          rw [e] at h1
          omega
      have vb := vl_b (M 36) (I 19).toInt.toNat p.1
      exact tu_97_133 hN x2 x3 r2 _ (I 19).toInt.toNat (by omega) N I L M (0 : Int32) (1 : Int32) k (by omega) (Or.inr ⟨il_1, p, by omega, by omega⟩)
    · have t5 := ia_add y (1 : Int32) (by omega) (by omega)
      refine wq_in (n := 20) ⟨by omega, by omega⟩ ?_
      refine wq_i (fun _ => wq_v (fun v e => ?_)) (fun _ => ?_)
      · have t6 := congrArg Int32.toInt e
        exact ih I L M v k ⟨by omega, by omega⟩ (by omega) hk (by omega)
      · refine wq_in (n := 20) ⟨by omega, by omega⟩ ?_
        refine wq_v (fun M9 e9 => ?_)
        refine wq_in (n := 20) ⟨by omega, by omega⟩ ?_
        refine wq_v (fun M10 e10 => ?_)
        have t7 := ia_add (I 19) (1 : Int32) (by omega) (by omega)
        refine wq_v (fun I11 e11 => ?_)
        refine wq_v (fun v e => ?_)
        have t6 := congrArg Int32.toInt e
        have k9 : KX12 I M9 := by rw [e9]; exact KX12.sm35 k ⟨by omega, by omega⟩
        have k10 : KX12 I M10 := by rw [e10]; exact KX12.sm36 k9 ⟨by omega, by omega⟩
        have k11 : KX12 I11 M10 := by rw [e11]; exact KX12.si19 k10 ⟨by omega, by omega⟩
        have e19 : (I11 19).toInt = (I 19).toInt + 1 := by
          have q : I11 19 = I 19 + (1 : Int32) := by rw [e11]; rfl
          rw [q]; exact t7.trans (by omega)
        have e36 : M10 36 = upd (M 36) (I 19).toNatClampNeg (I 19) := by rw [e10, e9]; rfl
        have c := tn_of (I 19) (by omega)
        refine ih I11 L M10 v k11 ⟨by omega, by omega⟩ (by omega) (fun j hj => ?_) (by omega)
        rw [e36]
        unfold upd
        by_cases q : j = (I 19).toNatClampNeg
        · rw [if_pos q]; omega
        · rw [if_neg q]; exact hk j (by omega)
theorem tt_fX12_asks_133 {N : Nat} (hN : 3000000000 ≤ N) (I0 : Nat → Int32) (L0 : Int64) (M0 : Nat → Nat → Int32) (x2 : Int32) (x3 : Int32) (k_I0 : KX12 I0 M0) : wq (fX12_asks_133 N I0 L0 M0 x2 x3) (fun r => KX12 r.2.1 r.2.2.2 ∧ True) := by
  unfold fX12_asks_133
  refine wq_v (fun I1 e1 => ?_)
  have l_0 := il_0
  have k1 : KX12 I1 M0 := by rw [e1]; exact KX12.si19 k_I0 ⟨by decide, by decide⟩
  have q : (I1 19).toInt = 0 := by rw [e1]; exact il_0
  exact tu_8_133 hN x2 x3 N I1 L0 M0 (0 : Int32) k1 ⟨by omega, by omega⟩ (by omega) (fun j hj => by exfalso; omega) (by omega)
set_option maxHeartbeats 4000000 in
theorem tt_fX12_hits {N : Nat} (hN : 3000000000 ≤ N) (I0 : Nat → Int32) (L0 : Int64) (M0 : Nat → Nat → Int32) (x1 : Int32) (x2 : Int32) (k_I0 : KX12 I0 M0) : wq (fX12_hits N I0 L0 M0 x1 x2) (fun r => KX12 r.2.1 r.2.2.2 ∧ True) := by
  unfold fX12_hits
  refine wq_v (fun I0_4_q65103 h_I0_4_q65103 => ?_)
  have k_I0_4_q65103 : KX12 I0_4_q65103 M0 := by rw [h_I0_4_q65103]; exact KX12.si0 k_I0
  have b_65104 := i32b x1
  have l_0 := il_0
  refine wq_eq (fun hc_65105 => ?_) (fun hc_65106 => ?_)
  · unfold fX12_hits_J15
    have b_65107 := i32b x2
    have l_120 := il_120
    refine wq_b (tt_fX12_within hN x2 (0 : Int32) (120 : Int32)) (fun r3_q65108 h_r3_q65108 => ?_)
    obtain ⟨h_r3_q65108_0, h_r3_q65108_1, -⟩ := h_r3_q65108
    refine wq_eq (fun hc_65109 => ?_) (fun hc_65110 => ?_)
    · unfold fX12_hits_J29
      unfold fX12_hits_J30
      have l_1 := il_1
      refine wq_b (tt_fX12_right hN I0_4_q65103 L0 M0 (0 : Int32) (1 : Int32) ⟨by omega, by omega⟩ k_I0_4_q65103) (fun r1_q65111 h_r1_q65111 => ?_)
      obtain ⟨h_r1_q65111_0, h_r1_q65111_1, h_r1_q65111_2, h_r1_q65111_3, -⟩ := h_r1_q65111
      have t_65112 := KX12.i1 h_r1_q65111_3
      have t_65113 := KX12.i1 k_I0
      have t_65114 : (I0_4_q65103 1).toInt = (I0 1).toInt := by rw [h_I0_4_q65103]; rfl
      refine wq_eq (fun hc_65115 => ?_) (fun hc_65116 => ?_)
      · exact wq_s ⟨h_r1_q65111_3, trivial⟩
      · refine wq_b (tt_fX12_asks_133 hN r1_q65111.2.1 r1_q65111.2.2.1 r1_q65111.2.2.2 x1 x2 h_r1_q65111_3) (fun r2_q65117 h_r2_q65117 => ?_)
        obtain ⟨h_r2_q65117_0, -⟩ := h_r2_q65117
        have b_65118 := i32b r2_q65117.1
        exact wq_s ⟨h_r2_q65117_0, trivial⟩
    · unfold fX12_hits_J30
      have l_1 := il_1
      refine wq_b (tt_fX12_right hN I0_4_q65103 L0 M0 (1 : Int32) (1 : Int32) ⟨by omega, by omega⟩ k_I0_4_q65103) (fun r1_q65119 h_r1_q65119 => ?_)
      obtain ⟨h_r1_q65119_0, h_r1_q65119_1, h_r1_q65119_2, h_r1_q65119_3, -⟩ := h_r1_q65119
      have t_65120 := KX12.i1 h_r1_q65119_3
      have t_65121 := KX12.i1 k_I0
      have t_65122 : (I0_4_q65103 1).toInt = (I0 1).toInt := by rw [h_I0_4_q65103]; rfl
      refine wq_eq (fun hc_65123 => ?_) (fun hc_65124 => ?_)
      · exact wq_s ⟨h_r1_q65119_3, trivial⟩
      · refine wq_b (tt_fX12_asks_133 hN r1_q65119.2.1 r1_q65119.2.2.1 r1_q65119.2.2.2 x1 x2 h_r1_q65119_3) (fun r2_q65125 h_r2_q65125 => ?_)
        obtain ⟨h_r2_q65125_0, -⟩ := h_r2_q65125
        have b_65126 := i32b r2_q65125.1
        exact wq_s ⟨h_r2_q65125_0, trivial⟩
  · have l_1 := il_1
    refine wq_eq (fun hc_65127 => ?_) (fun hc_65128 => ?_)
    · unfold fX12_hits_J15
      have b_65129 := i32b x2
      have l_120 := il_120
      refine wq_b (tt_fX12_within hN x2 (0 : Int32) (120 : Int32)) (fun r3_q65130 h_r3_q65130 => ?_)
      obtain ⟨h_r3_q65130_0, h_r3_q65130_1, -⟩ := h_r3_q65130
      refine wq_eq (fun hc_65131 => ?_) (fun hc_65132 => ?_)
      · unfold fX12_hits_J29
        unfold fX12_hits_J30
        refine wq_b (tt_fX12_right hN I0_4_q65103 L0 M0 (0 : Int32) (1 : Int32) ⟨by omega, by omega⟩ k_I0_4_q65103) (fun r1_q65133 h_r1_q65133 => ?_)
        obtain ⟨h_r1_q65133_0, h_r1_q65133_1, h_r1_q65133_2, h_r1_q65133_3, -⟩ := h_r1_q65133
        have t_65134 := KX12.i1 h_r1_q65133_3
        have t_65135 := KX12.i1 k_I0
        have t_65136 : (I0_4_q65103 1).toInt = (I0 1).toInt := by rw [h_I0_4_q65103]; rfl
        refine wq_eq (fun hc_65137 => ?_) (fun hc_65138 => ?_)
        · exact wq_s ⟨h_r1_q65133_3, trivial⟩
        · refine wq_b (tt_fX12_asks_133 hN r1_q65133.2.1 r1_q65133.2.2.1 r1_q65133.2.2.2 x1 x2 h_r1_q65133_3) (fun r2_q65139 h_r2_q65139 => ?_)
          obtain ⟨h_r2_q65139_0, -⟩ := h_r2_q65139
          have b_65140 := i32b r2_q65139.1
          exact wq_s ⟨h_r2_q65139_0, trivial⟩
      · unfold fX12_hits_J30
        refine wq_b (tt_fX12_right hN I0_4_q65103 L0 M0 (1 : Int32) (1 : Int32) ⟨by omega, by omega⟩ k_I0_4_q65103) (fun r1_q65141 h_r1_q65141 => ?_)
        obtain ⟨h_r1_q65141_0, h_r1_q65141_1, h_r1_q65141_2, h_r1_q65141_3, -⟩ := h_r1_q65141
        have t_65142 := KX12.i1 h_r1_q65141_3
        have t_65143 := KX12.i1 k_I0
        have t_65144 : (I0_4_q65103 1).toInt = (I0 1).toInt := by rw [h_I0_4_q65103]; rfl
        refine wq_eq (fun hc_65145 => ?_) (fun hc_65146 => ?_)
        · exact wq_s ⟨h_r1_q65141_3, trivial⟩
        · refine wq_b (tt_fX12_asks_133 hN r1_q65141.2.1 r1_q65141.2.2.1 r1_q65141.2.2.2 x1 x2 h_r1_q65141_3) (fun r2_q65147 h_r2_q65147 => ?_)
          obtain ⟨h_r2_q65147_0, -⟩ := h_r2_q65147
          have b_65148 := i32b r2_q65147.1
          exact wq_s ⟨h_r2_q65147_0, trivial⟩
    · unfold fX12_hits_J29
      unfold fX12_hits_J30
      refine wq_b (tt_fX12_right hN I0_4_q65103 L0 M0 (0 : Int32) (1 : Int32) ⟨by omega, by omega⟩ k_I0_4_q65103) (fun r1_q65149 h_r1_q65149 => ?_)
      obtain ⟨h_r1_q65149_0, h_r1_q65149_1, h_r1_q65149_2, h_r1_q65149_3, -⟩ := h_r1_q65149
      have t_65150 := KX12.i1 h_r1_q65149_3
      have t_65151 := KX12.i1 k_I0
      have t_65152 : (I0_4_q65103 1).toInt = (I0 1).toInt := by rw [h_I0_4_q65103]; rfl
      refine wq_eq (fun hc_65153 => ?_) (fun hc_65154 => ?_)
      · exact wq_s ⟨h_r1_q65149_3, trivial⟩
      · have b_65155 := i32b x2
        refine wq_b (tt_fX12_asks_133 hN r1_q65149.2.1 r1_q65149.2.2.1 r1_q65149.2.2.2 x1 x2 h_r1_q65149_3) (fun r2_q65156 h_r2_q65156 => ?_)
        obtain ⟨h_r2_q65156_0, -⟩ := h_r2_q65156
        have b_65157 := i32b r2_q65156.1
        exact wq_s ⟨h_r2_q65156_0, trivial⟩
theorem tu_97_135 {N : Nat} (hN : 3000000000 ≤ N) (x2 x3 r2 : Int32) (g8 : (Nat → Int32) → Int64 → (Nat → Nat → Int32) → Int32 → Option (Int32 × (Nat → Int32) × Int64 × (Nat → Nat → Int32))) (n : Nat) (hn : n ≤ 8) : ∀ (fu : Nat) (I : Nat → Int32) (L : Int64) (M : Nat → Nat → Int32) (y5 y6 : Int32), KX12 I M → 0 < fu → (y6.toInt = 0 ∨ (y6.toInt = 1 ∧ PI9 n (M 36) ∧ (I 19).toInt = (n : Int) ∧ 16777217 - vl (M 36) n < (fu : Int))) → wq (fX12_asks_135_L97 N x2 x3 r2 g8 fu I L M y5 y6) (fun r => KX12 r.2.1 r.2.2.2 ∧ True) := by
  intro fu
  induction fu with
  | zero => intro I L M y5 y6 k h0 h; exact absurd h0 (by decide)
  | succ fu ih =>
    intro I L M y5 y6 k h0 h
    rw [fX12_asks_135_L97.eq_2]
    have l_0 := il_0
    refine wq_eq (fun hc => wq_s ⟨k, trivial⟩) (fun hc => ?_)
    obtain ⟨h1, p, h9, hm⟩ : y6.toInt = 1 ∧ PI9 n (M 36) ∧ (I 19).toInt = (n : Int) ∧ 16777217 - vl (M 36) n < ((fu + 1 : Nat) : Int) := by
      rcases h with q | q
      · exfalso; omega
      · exact q
    have vb := vl_b (M 36) n p.1
    have p8 := p8_le n hn
    have nx : ∀ (w v : Int32) (r : Int32 × (Nat → Int32) × Int64 × (Nat → Nat → Int32)), TP n I M r → v = r.1 → wq (fX12_asks_135_L97 N x2 x3 r2 g8 fu r.2.1 r.2.2.1 r.2.2.2 w v) (fun r => KX12 r.2.1 r.2.2.2 ∧ True) := by
      intro w v r hr e
      obtain ⟨kr, er, hr⟩ := hr
      refine ih r.2.1 r.2.2.1 r.2.2.2 w v kr (by omega) ?_
      rw [e]
      rcases hr with q | ⟨q1, q2, q3⟩
      · exact Or.inl q
      · exact Or.inr ⟨q1, q2, by rw [er]; exact h9, by omega⟩
    refine wq_b (tt_fX12_hitsBy hN I L M x3 k) (fun r3 _ => ?_)
    refine wq_i (fun _ => ?_) (fun _ => ?_)
    · exact wq_b (tu_turns hN n hn I L M k p h9) (fun r hr => wq_v (fun v e => nx _ v r hr e))
    · exact wq_v (fun w _ => wq_b (tu_turns hN n hn I L M k p h9) (fun r hr => wq_v (fun v e => nx w v r hr e)))
theorem tu_8_135 {N : Nat} (hN : 3000000000 ≤ N) (x2 x3 : Int32) : ∀ (fu : Nat) (I : Nat → Int32) (L : Int64) (M : Nat → Nat → Int32) (y : Int32), KX12 I M → (0 ≤ y.toInt ∧ y.toInt ≤ 20) → (I 19).toInt ≤ y.toInt → (∀ k : Nat, (k : Int) < (I 19).toInt → (M 36 k).toInt = (k : Int)) → 20 - y.toInt < (fu : Int) → wq (fX12_asks_135_L8 N x2 x3 fu I L M y) (fun r => KX12 r.2.1 r.2.2.2 ∧ True) := by
  intro fu
  induction fu with
  | zero => intro I L M y k hy h9 hk hm; exfalso; omega
  | succ fu ih =>
    intro I L M y k hy h9 hk hm
    rw [fX12_asks_135_L8.eq_2]
    have l_20 := il_20
    have l_8 := il_8
    have l_1 := il_1
    have i19 := k.i19
    refine wq_le (fun hc => ?_) (fun hc => ?_)
    · refine wq_b (tt_fX12_hitsBy hN I L M x3 k) (fun r2 _ => ?_)
      refine wq_i (fun _ => wq_s ⟨k, trivial⟩) (fun _ => ?_)
      refine wq_le (fun hc2 => ?_) (fun hc2 => wq_s ⟨k, trivial⟩)
      have p : PI9 (I 19).toInt.toNat (M 36) := by
        refine ⟨fun j hj => ?_, fun a b ha hb e => ?_⟩
        · have := hk j (by omega)
          omega
        · have h1 := hk a (by omega)
          have h2 := hk b (by omega)
          rw [e] at h1
          omega
      have vb := vl_b (M 36) (I 19).toInt.toNat p.1
      exact tu_97_135 hN x2 x3 r2 _ (I 19).toInt.toNat (by omega) N I L M (0 : Int32) (1 : Int32) k (by omega) (Or.inr ⟨il_1, p, by omega, by omega⟩)
    · have t5 := ia_add y (1 : Int32) (by omega) (by omega)
      refine wq_in (n := 20) ⟨by omega, by omega⟩ ?_
      refine wq_i (fun _ => wq_v (fun v e => ?_)) (fun _ => ?_)
      · have t6 := congrArg Int32.toInt e
        exact ih I L M v k ⟨by omega, by omega⟩ (by omega) hk (by omega)
      · refine wq_in (n := 20) ⟨by omega, by omega⟩ ?_
        refine wq_v (fun M9 e9 => ?_)
        refine wq_in (n := 20) ⟨by omega, by omega⟩ ?_
        refine wq_v (fun M10 e10 => ?_)
        have t7 := ia_add (I 19) (1 : Int32) (by omega) (by omega)
        refine wq_v (fun I11 e11 => ?_)
        refine wq_v (fun v e => ?_)
        have t6 := congrArg Int32.toInt e
        have k9 : KX12 I M9 := by rw [e9]; exact KX12.sm35 k ⟨by omega, by omega⟩
        have k10 : KX12 I M10 := by rw [e10]; exact KX12.sm36 k9 ⟨by omega, by omega⟩
        have k11 : KX12 I11 M10 := by rw [e11]; exact KX12.si19 k10 ⟨by omega, by omega⟩
        have e19 : (I11 19).toInt = (I 19).toInt + 1 := by
          have q : I11 19 = I 19 + (1 : Int32) := by rw [e11]; rfl
          rw [q]; exact t7.trans (by omega)
        have e36 : M10 36 = upd (M 36) (I 19).toNatClampNeg (I 19) := by rw [e10, e9]; rfl
        have c := tn_of (I 19) (by omega)
        refine ih I11 L M10 v k11 ⟨by omega, by omega⟩ (by omega) (fun j hj => ?_) (by omega)
        rw [e36]
        unfold upd
        by_cases q : j = (I 19).toNatClampNeg
        · rw [if_pos q]; omega
        · rw [if_neg q]; exact hk j (by omega)
theorem tt_fX12_asks_135 {N : Nat} (hN : 3000000000 ≤ N) (I0 : Nat → Int32) (L0 : Int64) (M0 : Nat → Nat → Int32) (x2 : Int32) (x3 : Int32) (k_I0 : KX12 I0 M0) : wq (fX12_asks_135 N I0 L0 M0 x2 x3) (fun r => KX12 r.2.1 r.2.2.2 ∧ True) := by
  unfold fX12_asks_135
  refine wq_v (fun I1 e1 => ?_)
  have l_0 := il_0
  have k1 : KX12 I1 M0 := by rw [e1]; exact KX12.si19 k_I0 ⟨by decide, by decide⟩
  have q : (I1 19).toInt = 0 := by rw [e1]; exact il_0
  exact tu_8_135 hN x2 x3 N I1 L0 M0 (0 : Int32) k1 ⟨by omega, by omega⟩ (by omega) (fun j hj => by exfalso; omega) (by omega)
set_option maxHeartbeats 4000000 in
theorem tt_fX12_fates {N : Nat} (hN : 3000000000 ≤ N) (I0 : Nat → Int32) (L0 : Int64) (M0 : Nat → Nat → Int32) (x1 : Int32) (k_I0 : KX12 I0 M0) : wq (fX12_fates N I0 L0 M0 x1) (fun r => KX12 r.2.1 r.2.2.2 ∧ True) := by
  unfold fX12_fates
  refine wq_v (fun I0_3_q65338 h_I0_3_q65338 => ?_)
  have k_I0_3_q65338 : KX12 I0_3_q65338 M0 := by rw [h_I0_3_q65338]; exact KX12.si0 k_I0
  have b_65339 := i32b x1
  have l_0 := il_0
  refine wq_eq (fun hc_65340 => ?_) (fun hc_65341 => ?_)
  · unfold fX12_fates_J15
    unfold fX12_fates_J20
    have l_1 := il_1
    refine wq_b (tt_fX12_right hN I0_3_q65338 L0 M0 (1 : Int32) (1 : Int32) ⟨by omega, by omega⟩ k_I0_3_q65338) (fun r1_q65342 h_r1_q65342 => ?_)
    obtain ⟨h_r1_q65342_0, h_r1_q65342_1, h_r1_q65342_2, h_r1_q65342_3, -⟩ := h_r1_q65342
    have t_65343 := KX12.i1 h_r1_q65342_3
    have t_65344 := KX12.i1 k_I0
    have t_65345 : (I0_3_q65338 1).toInt = (I0 1).toInt := by rw [h_I0_3_q65338]; rfl
    refine wq_eq (fun hc_65346 => ?_) (fun hc_65347 => ?_)
    · exact wq_s ⟨h_r1_q65342_3, trivial⟩
    · have l_m1 := il_m1
      refine wq_b (tt_fX12_asks_135 hN r1_q65342.2.1 r1_q65342.2.2.1 r1_q65342.2.2.2 x1 ((-1) : Int32) h_r1_q65342_3) (fun r2_q65348 h_r2_q65348 => ?_)
      obtain ⟨h_r2_q65348_0, -⟩ := h_r2_q65348
      have b_65349 := i32b r2_q65348.1
      exact wq_s ⟨h_r2_q65348_0, trivial⟩
  · have l_1 := il_1
    refine wq_eq (fun hc_65350 => ?_) (fun hc_65351 => ?_)
    · unfold fX12_fates_J15
      unfold fX12_fates_J20
      refine wq_b (tt_fX12_right hN I0_3_q65338 L0 M0 (1 : Int32) (1 : Int32) ⟨by omega, by omega⟩ k_I0_3_q65338) (fun r1_q65352 h_r1_q65352 => ?_)
      obtain ⟨h_r1_q65352_0, h_r1_q65352_1, h_r1_q65352_2, h_r1_q65352_3, -⟩ := h_r1_q65352
      have t_65353 := KX12.i1 h_r1_q65352_3
      have t_65354 := KX12.i1 k_I0
      have t_65355 : (I0_3_q65338 1).toInt = (I0 1).toInt := by rw [h_I0_3_q65338]; rfl
      refine wq_eq (fun hc_65356 => ?_) (fun hc_65357 => ?_)
      · exact wq_s ⟨h_r1_q65352_3, trivial⟩
      · have l_m1 := il_m1
        refine wq_b (tt_fX12_asks_135 hN r1_q65352.2.1 r1_q65352.2.2.1 r1_q65352.2.2.2 x1 ((-1) : Int32) h_r1_q65352_3) (fun r2_q65358 h_r2_q65358 => ?_)
        obtain ⟨h_r2_q65358_0, -⟩ := h_r2_q65358
        have b_65359 := i32b r2_q65358.1
        exact wq_s ⟨h_r2_q65358_0, trivial⟩
    · unfold fX12_fates_J20
      refine wq_b (tt_fX12_right hN I0_3_q65338 L0 M0 (0 : Int32) (1 : Int32) ⟨by omega, by omega⟩ k_I0_3_q65338) (fun r1_q65360 h_r1_q65360 => ?_)
      obtain ⟨h_r1_q65360_0, h_r1_q65360_1, h_r1_q65360_2, h_r1_q65360_3, -⟩ := h_r1_q65360
      have t_65361 := KX12.i1 h_r1_q65360_3
      have t_65362 := KX12.i1 k_I0
      have t_65363 : (I0_3_q65338 1).toInt = (I0 1).toInt := by rw [h_I0_3_q65338]; rfl
      refine wq_eq (fun hc_65364 => ?_) (fun hc_65365 => ?_)
      · exact wq_s ⟨h_r1_q65360_3, trivial⟩
      · have l_m1 := il_m1
        refine wq_b (tt_fX12_asks_135 hN r1_q65360.2.1 r1_q65360.2.2.1 r1_q65360.2.2.2 x1 ((-1) : Int32) h_r1_q65360_3) (fun r2_q65366 h_r2_q65366 => ?_)
        obtain ⟨h_r2_q65366_0, -⟩ := h_r2_q65366
        have b_65367 := i32b r2_q65366.1
        exact wq_s ⟨h_r2_q65366_0, trivial⟩
/-! the fresh states -/
def fx_I : Nat → Int32 := fun k => if k = 8 then -1 else 0
def fx_M : Nat → Nat → Int32 := fun k j => if (k = 4 ∨ k = 10) ∧ j < 28 then 1 else if k = 13 ∧ j < 2640 then -1 else if (k = 28 ∨ k = 29 ∨ k = 30) ∧ j < 20 then -1 else 0
def fm_I : Nat → Int32 := fun k => if k = 5 ∨ k = 15 then -1 else 0
def fm_M : Nat → Nat → Int32 := fun k j => if k = 3 ∧ j < 28 then 1 else if k = 7 ∧ j < 2640 then -1 else if (k = 32 ∨ k = 34) ∧ j < 20 then -1 else 0
set_option maxHeartbeats 4000000 in
set_option maxRecDepth 100000 in
theorem wp_freshX (N : Nat) (hN : 2640 < N) : fX11_init N = some (fx_I, fx_M) := by
  unfold fX11_init fX9_init fX5_init fX1_init fX3_init fX8_init fX10_init fX6_init fX0_init fX7_init fX2_init fX4_init
  simp only [Option.bind_some, wp_fill N 28 _ _ (by decide) (by omega), wp_fill N 2640 _ _ (by decide) hN, wp_fill N 20 _ _ (by decide) (by omega)]
  refine congrArg some (Prod.ext ?_ ?_)
  · funext k
    rcases Nat.lt_or_ge k 43 with h | h
    · revert k; decide +kernel
    · have h8 : k ≠ 8 := by omega
      have e9 : fx_I k = 0 := by simp [fx_I, h8]
      refine Eq.trans ?_ e9.symm; exact wp_getD _ _ _ (by simpa using h)
  · funext k j
    rcases Nat.lt_or_ge k 34 with h | h
    · have hk : k ∈ List.range 34 := List.mem_range.mpr h
      simp only [fx_M]
      match k, h with
      | 0, _ => rfl
      | 1, _ => rfl
      | 2, _ => rfl
      | 3, _ => rfl
      | 4, _ => simp [wb_mm]
      | 5, _ => rfl
      | 6, _ => rfl
      | 7, _ => rfl
      | 8, _ => rfl
      | 9, _ => rfl
      | 10, _ => simp [wb_mm]
      | 11, _ => rfl
      | 12, _ => rfl
      | 13, _ => simp [wb_mm]
      | 14, _ => rfl
      | 15, _ => rfl
      | 16, _ => rfl
      | 17, _ => rfl
      | 18, _ => rfl
      | 19, _ => rfl
      | 20, _ => rfl
      | 21, _ => rfl
      | 22, _ => rfl
      | 23, _ => rfl
      | 24, _ => rfl
      | 25, _ => rfl
      | 26, _ => rfl
      | 27, _ => rfl
      | 28, _ => simp [wb_mm]
      | 29, _ => simp [wb_mm]
      | 30, _ => simp [wb_mm]
      | 31, _ => rfl
      | 32, _ => rfl
      | 33, _ => rfl
      | k + 34, h => exact absurd h (by omega)
    · have h1 : ¬ (k = 4 ∨ k = 10) := by omega
      have h2 : k ≠ 13 := by omega
      have h3 : ¬ (k = 28 ∨ k = 29 ∨ k = 30) := by omega
      simp [fx_M, h1, h2, h3, wb_mm, wp_getD, h]
def fm_M1 (k : Nat) : Nat → Nat → Int32 := fun a j => if a = 3 ∧ j < k then 1 else 0
def fm_M2 (k : Nat) : Nat → Nat → Int32 := fun a j => if a = 3 ∧ j < 28 then 1 else if a = 7 ∧ j < k then -1 else 0
def fm_M3 (k : Nat) : Nat → Nat → Int32 := fun a j => if a = 3 ∧ j < 28 then 1 else if a = 7 ∧ j < 2640 then -1 else if (a = 32 ∨ a = 34) ∧ j < k then -1 else 0
def fm_M4 (k : Nat) : Nat → Nat → Int32 := fun a j => if a = 3 ∧ j < 28 then 1 else if a = 7 ∧ j < 2640 then -1 else if (a = 32 ∧ j < k + 1) ∨ (a = 34 ∧ j < k) then -1 else 0
theorem wp_um1 (k : Nat) : wb_um (fm_M1 k) 3 k 1 = fm_M1 (k + 1) := by
  funext a j
  unfold wb_um fm_M1 upd
  by_cases ha : a = 3
  · subst ha
    by_cases hj : j = k
    · subst hj; simp
    · have h : (j < k + 1) = (j < k) := by apply propext; omega
      simp [hj, h]
  · simp [ha]
theorem wp_um2 (k : Nat) : wb_um (fm_M2 k) 7 k (-1) = fm_M2 (k + 1) := by
  funext a j
  unfold wb_um fm_M2 upd
  by_cases ha : a = 7
  · subst ha
    by_cases hj : j = k
    · subst hj; simp
    · have h : (j < k + 1) = (j < k) := by apply propext; omega
      simp [hj, h]
  · simp [ha]
theorem wp_um3 (k : Nat) : wb_um (fm_M3 k) 32 k (-1) = fm_M4 k := by
  funext a j
  unfold wb_um fm_M3 fm_M4 upd
  by_cases ha : a = 32
  · subst ha
    by_cases hj : j = k
    · subst hj; simp
    · have h : (j < k + 1) = (j < k) := by apply propext; omega
      simp [hj, h]
  · simp [ha]
theorem wp_um4 (k : Nat) : wb_um (fm_M4 k) 34 k (-1) = fm_M3 (k + 1) := by
  funext a j
  unfold wb_um fm_M3 fm_M4 upd
  by_cases ha : a = 34
  · subst ha
    by_cases hj : j = k
    · subst hj; simp
    · have h : (j < k + 1) = (j < k) := by apply propext; omega
      simp [hj, h]
  · by_cases h2 : a = 32
    · subst h2; simp
    · simp [ha, h2]
theorem wp_m354 (N : Nat) (g1 g2 : (Nat → Int32) → Int64 → (Nat → Nat → Int32) → Int32 → Option ((Nat → Int32) × Int64 × (Nat → Nat → Int32))) (I : Nat → Int32) (L : Int64) (hN : 20 < N) : fX12_init_L354 N g1 g2 N I L (fm_M3 0) 0 = some (I, L, fm_M3 20) := by
  have h := wp_loopS (F := fun fu M i => fX12_init_L354 N g1 g2 fu I L M i) 20 fm_M3 (I, L, fm_M3 20)
    (fun fu _ => by show fX12_init_L354 N g1 g2 (fu + 1) I L _ (nI 20) = _; rw [fX12_init_L354.eq_2, if_pos (by decide)])
    (fun fu k hk => by
      show fX12_init_L354 N g1 g2 (fu + 1) I L _ (nI k) = _
      rw [fX12_init_L354.eq_2, if_neg (show ¬ (20 : Int32) ≤ nI k from nI_ge (a := k) (b := 20) hk (by decide)), if_neg (wp_in hk (by decide)), Option.bind_some, if_neg (wp_in hk (by decide)), Option.bind_some, Option.bind_some, nI_clamp (by omega), wp_um3, wp_um4, nI_1])
    N 0 (Nat.zero_le _) (by omega)
  exact h
theorem wp_m332 (N : Nat) (g1 : (Nat → Int32) → Int64 → (Nat → Nat → Int32) → Int32 → Option ((Nat → Int32) × Int64 × (Nat → Nat → Int32))) (I : Nat → Int32) (L : Int64) (hN : 2640 < N) : fX12_init_L332 N g1 N I L (fm_M2 0) 0 = some (I, L, fm_M3 20) := by
  have e : fm_M2 2640 = fm_M3 0 := by funext a j; simp [fm_M2, fm_M3]
  have h := wp_loopS (F := fun fu M i => fX12_init_L332 N g1 fu I L M i) 2640 fm_M2 (I, L, fm_M3 20)
    (fun fu _ => by show fX12_init_L332 N g1 (fu + 1) I L _ (nI 2640) = _; rw [fX12_init_L332.eq_2, if_pos (by decide), e]; exact wp_m354 N g1 _ I L (by omega))
    (fun fu k hk => by
      show fX12_init_L332 N g1 (fu + 1) I L _ (nI k) = _
      rw [fX12_init_L332.eq_2, if_neg (show ¬ (2640 : Int32) ≤ nI k from nI_ge (a := k) (b := 2640) hk (by decide)), if_neg (wp_in hk (by decide)), Option.bind_some, Option.bind_some, nI_clamp (by omega), wp_um2, nI_1])
    N 0 (Nat.zero_le _) (by omega)
  exact h
theorem wp_m311 (N : Nat) (I : Nat → Int32) (L : Int64) (hN : 2640 < N) : fX12_init_L311 N N I L (fm_M1 0) 0 = some (I, L, fm_M3 20) := by
  have e : fm_M1 28 = fm_M2 0 := by funext a j; simp [fm_M1, fm_M2]
  have h := wp_loopS (F := fun fu M i => fX12_init_L311 N fu I L M i) 28 fm_M1 (I, L, fm_M3 20)
    (fun fu _ => by show fX12_init_L311 N (fu + 1) I L _ (nI 28) = _; rw [fX12_init_L311.eq_2, if_pos (by decide), e]; exact wp_m332 N _ I L hN)
    (fun fu k hk => by
      show fX12_init_L311 N (fu + 1) I L _ (nI k) = _
      rw [fX12_init_L311.eq_2, if_neg (show ¬ (28 : Int32) ≤ nI k from nI_ge (a := k) (b := 28) hk (by decide)), if_neg (wp_in hk (by decide)), Option.bind_some, Option.bind_some, nI_clamp (by omega), wp_um1, nI_1])
    N 0 (Nat.zero_le _) (by omega)
  exact h
set_option maxHeartbeats 4000000 in
set_option maxRecDepth 100000 in
theorem wp_freshM (N : Nat) (hN : 2640 < N) : fX12_init N = some (fm_I, 0, fm_M) := by
  have e1 : (fun k => ([0, 0, 0, 0, 0, (-1 : Int32), 0, 0, 0, 0, 0, 0, 0, 0, 0, (-1 : Int32), 0, 0, 0, 0] : List Int32).getD k 0) = fm_I := by
    funext k
    rcases Nat.lt_or_ge k 20 with h | h
    · revert k; decide +kernel
    · have h5 : ¬ (k = 5 ∨ k = 15) := by omega
      rw [wp_getD _ _ _ (by simpa using h)]; simp [fm_I, h5]
  have e2 : fm_M3 20 = fm_M := by funext a j; simp [fm_M3, fm_M]
  unfold fX12_init
  rw [Option.bind_some, Option.bind_some, e1, ← e2]
  refine Eq.trans (congrArg (fun M => fX12_init_L311 N N fm_I 0 M 0) ?_) (wp_m311 N fm_I 0 hN)
  funext a j
  have e3 : fm_M1 0 a j = 0 := by simp [fm_M1]
  rw [e3]
  rcases Nat.lt_or_ge a 37 with h | h
  · match a, h with
    | 0, _ => rfl
    | 1, _ => rfl
    | 2, _ => rfl
    | 3, _ => rfl
    | 4, _ => rfl
    | 5, _ => rfl
    | 6, _ => rfl
    | 7, _ => rfl
    | 8, _ => rfl
    | 9, _ => rfl
    | 10, _ => rfl
    | 11, _ => rfl
    | 12, _ => rfl
    | 13, _ => rfl
    | 14, _ => rfl
    | 15, _ => rfl
    | 16, _ => rfl
    | 17, _ => rfl
    | 18, _ => rfl
    | 19, _ => rfl
    | 20, _ => rfl
    | 21, _ => rfl
    | 22, _ => rfl
    | 23, _ => rfl
    | 24, _ => rfl
    | 25, _ => rfl
    | 26, _ => rfl
    | 27, _ => rfl
    | 28, _ => rfl
    | 29, _ => rfl
    | 30, _ => rfl
    | 31, _ => rfl
    | 32, _ => rfl
    | 33, _ => rfl
    | 34, _ => rfl
    | 35, _ => rfl
    | 36, _ => rfl
    | k + 37, h => exact absurd h (by omega)
  · rw [wp_getD _ _ _ (by simpa using h)]
theorem fx_M_z (k j : Nat) (h : (k == 4 || k == 10 || k == 13 || k == 28 || k == 29 || k == 30) = false) : fx_M k j = 0 := by
  have h1 : ¬ (k = 4 ∨ k = 10) := by rintro (rfl | rfl) <;> simp at h
  have h2 : k ≠ 13 := by rintro rfl; simp at h
  have h3 : ¬ (k = 28 ∨ k = 29 ∨ k = 30) := by rintro (rfl | rfl | rfl) <;> simp at h
  simp [fx_M, h1, h2, h3]
theorem fm_M_z (k j : Nat) (h : (k == 3 || k == 7 || k == 32 || k == 34) = false) : fm_M k j = 0 := by
  have h1 : k ≠ 3 := by rintro rfl; simp at h
  have h2 : k ≠ 7 := by rintro rfl; simp at h
  have h3 : ¬ (k = 32 ∨ k = 34) := by rintro (rfl | rfl) <;> simp at h
  simp [fm_M, h1, h2, h3]
theorem fx_M_v13 (j : Nat) : fx_M 13 j = -1 ∨ fx_M 13 j = 0 := by
  by_cases h : j < 2640
  · left; simp [fx_M, h]
  · right; simp [fx_M, h]
theorem fm_M_v7 (j : Nat) : fm_M 7 j = -1 ∨ fm_M 7 j = 0 := by
  by_cases h : j < 2640
  · left; simp [fm_M, h]
  · right; simp [fm_M, h]
set_option maxRecDepth 100000 in
theorem KX11_fresh : KX11 fx_I fx_M := ⟨(by decide),
  (by decide),
  (by decide),
  (by decide),
  (by decide),
  (by decide),
  (by decide),
  (by decide),
  (by decide),
  (by decide),
  (by decide),
  (by decide),
  (by decide),
  (by decide),
  (by decide),
  (by decide),
  (by decide),
  (by decide),
  (by decide),
  (by decide),
  (by decide),
  (by decide),
  (by decide),
  (by decide),
  (by decide),
  (by decide),
  (by decide),
  (fun j => by rcases fx_M_v13 j with h | h <;> rw [h] <;> decide),
  (fun j => by rw [show fx_M 14 j = 0 from fx_M_z 14 j (by decide)]; decide),
  (fun j => by rw [show fx_M 21 j = 0 from fx_M_z 21 j (by decide)]; decide),
  (fun j => by rw [show fx_M 22 j = 0 from fx_M_z 22 j (by decide)]; decide),
  (fun j => by rw [show fx_M 24 j = 0 from fx_M_z 24 j (by decide)]; decide),
  (fun j => by rw [show fx_M 31 j = 0 from fx_M_z 31 j (by decide)]; decide),
  (fun n e _ => (by rcases fx_M_v13 (22 * n + e) with h | h <;> rw [h] <;> decide)),
  (fun e _ => (by rw [show fx_M 14 (e) = 0 from fx_M_z 14 (e) (by decide)]; decide)),
  (by decide),
  (by decide),
  (by decide),
  (by decide),
  trivial⟩
set_option maxRecDepth 100000 in
theorem KX12_fresh : KX12 fm_I fm_M := ⟨(by decide),
  (by decide),
  (by decide),
  (by decide),
  (by decide),
  (by decide),
  (by decide),
  (by decide),
  (by decide),
  (by decide),
  (by decide),
  (by decide),
  (fun j => by rcases fm_M_v7 j with h | h <;> rw [h] <;> decide),
  (fun j => by rw [show fm_M 12 j = 0 from fm_M_z 12 j (by decide)]; decide),
  (fun j => by rw [show fm_M 16 j = 0 from fm_M_z 16 j (by decide)]; decide),
  (fun j => by rw [show fm_M 23 j = 0 from fm_M_z 23 j (by decide)]; decide),
  (fun j => by rw [show fm_M 24 j = 0 from fm_M_z 24 j (by decide)]; decide),
  (fun j => by rw [show fm_M 27 j = 0 from fm_M_z 27 j (by decide)]; decide),
  (fun j => by rw [show fm_M 35 j = 0 from fm_M_z 35 j (by decide)]; decide),
  (fun j => by rw [show fm_M 36 j = 0 from fm_M_z 36 j (by decide)]; decide),
  (fun c hc => absurd hc (by rw [show (fm_I 1).toInt = 0 from by decide]; omega)),
  (fun c hc => absurd hc (by rw [show (fm_I 13).toInt = 0 from by decide]; omega)),
  (fun n e _ => (by rcases fm_M_v7 (22 * n + e) with h | h <;> rw [h] <;> decide)),
  (fun e _ => (by rw [show fm_M 16 (e) = 0 from fm_M_z 16 (e) (by decide)]; decide)),
  ⟨fun j => by rw [show fm_M 28 j = 0 from fm_M_z 28 j (by decide)]; decide, fun b i j _ _ hj => absurd hj (by rw [show (fm_M 27 b).toInt = 0 from by rw [fm_M_z 27 b (by decide)]; decide]; omega)⟩,
  ⟨(by rw [show fm_M 18 (0) = 0 from fm_M_z 18 (0) (by decide)]; decide), (by rw [show fm_M 18 (1) = 0 from fm_M_z 18 (1) (by decide)]; decide), (by rw [show fm_M 18 (2) = 0 from fm_M_z 18 (2) (by decide)]; decide)⟩,
  ⟨(by rw [show fm_M 19 (0) = 0 from fm_M_z 19 (0) (by decide)]; decide), (by rw [show fm_M 19 (1) = 0 from fm_M_z 19 (1) (by decide)]; decide), (by rw [show fm_M 19 (2) = 0 from fm_M_z 19 (2) (by decide)]; decide)⟩,
  (fun j hj => by rw [show fm_M 3 j = 1 from by simp [fm_M, hj]]; decide),
  trivial⟩

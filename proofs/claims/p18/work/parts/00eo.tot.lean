theorem tt_re62 {N : Nat} (hN : 3000000000 ≤ N) (I : Nat → Int32) (L : Int64) (M : Nat → Nat → Int32) (y1 y2 : Int32) (k : KX12 I M) (h : (I 4).toInt ≠ 0 ∨ y1.toInt = 9 ∨ ((0 ≤ y2.toInt ∧ y2.toInt ≤ 21) ∧ (y1.toInt ≠ 10 ∨ y2.toInt = 21))) : wq (fX12_readsEntry_J62 N I L M y1 y2) (EP I) := by
  unfold fX12_readsEntry_J62
  have l_0 := il_0
  have l_1 := il_1
  have l_3 := il_3
  have l_9 := il_9
  have l_12 := il_12
  refine wq_b (tt_good N I L M) (fun r9 h9 => ?_)
  refine wq_eq (fun hc => ?_) (fun hc => ?_)
  · exact wq_s ⟨RO.of (M := M) (NP.rf k), Or.inl (by show (I 4).toInt ≠ 0; omega)⟩
  · refine wq_b (tt_steps hN I L M k) (fun r10 h10 => ?_)
    have n10 := NP.of h10
    rw [n10.1]
    refine wq_eq (fun hc9 => ?_) (fun hc9 => ?_)
    · refine wq_v (fun v11 e11 => ?_)
      refine wq_b (tt_number hN r10.1 r10.2.1 M 1 12 n10.2.2.1) (fun r12 h12 => ?_)
      obtain ⟨n12, g12⟩ := h12
      refine wq_v (fun v13 e13 => ?_)
      have t13 := congrArg Int32.toInt e13
      refine wq_v (fun v14 e14 => ?_)
      have t14 := congrArg Int32.toInt e14
      rw [n12.1]
      have na : NP I M r12.2 := NP.tr n10 n12
      refine wq_b (tt_good N r12.2.1 r12.2.2.1 M) (fun r15 h15 => ?_)
      refine wq_eq (fun hc2 => ?_) (fun hc2 => ?_)
      · exact wq_w (tt_re129 hN r12.2.1 r12.2.2.1 M y1 v14 na.2.2.1 (Or.inl (by omega))) (fun q g => EP.go na.2.2.2.1 na.2.2.2.2 g)
      · have p := g12.resolve_left (by omega)
        have ta := ia_add (9 : Int32) v13 (by omega) (by omega)
        have tb := ia_sub ((9 : Int32) + v13) (1 : Int32) (by omega) (by omega)
        refine wq_in (n := 22) ⟨by omega, by omega⟩ ?_
        refine wq_i (fun _ => ?_) (fun _ => ?_)
        · exact wq_w (tt_re129 hN r12.2.1 r12.2.2.1 M y1 v14 na.2.2.1 (Or.inr ⟨⟨by omega, by omega⟩, Or.inl (by omega)⟩)) (fun q g => EP.go na.2.2.2.1 na.2.2.2.2 g)
        · refine wq_v (fun I16 e16 => wq_v (fun I17 e17 => ?_))
          subst e16
          subst e17
          have k17 : KX12 (upd (upd r12.2.1 4 3) 5 v11) M := KX12.si5 (KX12.si4 na.2.2.1)
          refine wq_w (tt_re129 hN (upd (upd r12.2.1 4 3) 5 v11) r12.2.2.1 M y1 v14 k17 (Or.inl (show (3 : Int32).toInt ≠ 0 from by decide))) (fun q g => EP.go (J := upd (upd r12.2.1 4 3) 5 v11) (Or.inr (show (3 : Int32).toInt ≠ 0 from by decide)) na.2.2.2.2 g)
    · refine wq_w (tt_re129 hN r10.1 r10.2.1 M y1 y2 n10.2.2.1 ?_) (fun q g => EP.go n10.2.2.2.1 n10.2.2.2.2 g)
      have a := n10.2.2.2.1
      omega
theorem tt_re20 {N : Nat} (hN : 3000000000 ≤ N) (I : Nat → Int32) (L : Int64) (M : Nat → Nat → Int32) (y : Int32) (k : KX12 I M) (h : (I 4).toInt ≠ 0 ∨ (0 ≤ y.toInt ∧ y.toInt ≤ 10)) : wq (fX12_readsEntry_J20 N I L M y) (EP I) := by
  unfold fX12_readsEntry_J20 fX12_readsEntry_J40
  have l_0 := il_0
  have l_9 := il_9
  have l_10 := il_10
  have l_21 := il_21
  refine wq_b (tt_good N I L M) (fun r19 h19 => ?_)
  refine wq_eq (fun hc => ?_) (fun hc => ?_)
  · exact wq_s ⟨RO.of (M := M) (NP.rf k), Or.inl (by show (I 4).toInt ≠ 0; omega)⟩
  · have hh : ∀ z : Int32, (0 ≤ z.toInt ∧ z.toInt ≤ 21) → (y.toInt ≠ 10 ∨ z.toInt = 21) → wq (if y = 9 then fX12_readsEntry_J62 N I L M y z else if (z < 0 ∨ 22 ≤ z.toNatClampNeg) then none else if (M 16 z.toNatClampNeg) = -1 then fX12_readsEntry_J62 N I L M y z else (fX12_wrong N I L M 3).bind fun r18 => fX12_readsEntry_J62 N r18.1 r18.2.1 r18.2.2 y z) (EP I) := by
      intro z hz hz2
      refine wq_eq (fun hc9 => ?_) (fun hc9 => ?_)
      · exact tt_re62 hN I L M y z k (Or.inr (Or.inl (by omega)))
      · refine wq_in (n := 22) ⟨by omega, by omega⟩ ?_
        refine wq_i (fun _ => ?_) (fun _ => ?_)
        · exact tt_re62 hN I L M y z k (Or.inr (Or.inr ⟨hz, hz2⟩))
        · refine wq_b (tt_wrong N I L M 3 (by decide) k) (fun r18 h18 => ?_)
          rw [h18.1.1]
          exact wq_w (tt_re62 hN r18.1 r18.2.1 M y z h18.1.2.2.1 (Or.inl h18.2)) (fun q g => EP.go h18.1.2.2.2.1 h18.1.2.2.2.2 g)
    refine wq_eq (fun hc10 => ?_) (fun hc10 => ?_)
    · exact hh 21 ⟨by decide, by decide⟩ (Or.inr (by decide))
    · exact hh y ⟨by omega, by omega⟩ (Or.inl (by omega))
theorem tt_re {N : Nat} (hN : 3000000000 ≤ N) (I : Nat → Int32) (L : Int64) (M : Nat → Nat → Int32) (k : KX12 I M) : wq (fX12_readsEntry N I L M) (EP I) := by
  unfold fX12_readsEntry fX12_readsEntry_J15
  have l_0 := il_0
  have l_10 := il_10
  have hw : ∀ y : Int32, wq ((fX12_wrong N I L M 1).bind fun r20 => fX12_readsEntry_J20 N r20.1 r20.2.1 r20.2.2 y) (EP I) := by
    intro y
    refine wq_b (tt_wrong N I L M 1 (by decide) k) (fun r h => ?_)
    rw [h.1.1]
    exact wq_w (tt_re20 hN r.1 r.2.1 M y h.1.2.2.1 (Or.inl h.2)) (fun q g => EP.go h.1.2.2.2.1 h.1.2.2.2.2 g)
  refine wq_b (tt_fX12_knownWord hN I L M k) (fun r21 h21 => ?_)
  refine wq_lt (fun hc => hw _) (fun hc => ?_)
  refine wq_le (fun hc2 => ?_) (fun hc2 => hw _)
  exact tt_re20 hN I L M r21 k (Or.inr ⟨by omega, by omega⟩)
theorem EN.um {f : Nat → Int32} (h : EN f) {i : Nat} {v : Int32} (hv : ∀ n e : Nat, e < 21 → 22 * n + e = i → v.toInt ≤ 359) : EN (upd f i v) := by
  intro n e he
  unfold upd
  by_cases q : 22 * n + e = i
  · rw [if_pos q]; exact hv n e he q
  · rw [if_neg q]; exact h n e he
theorem tt_wh86 {N : Nat} (hN : 3000000000 ≤ N) (x1 x2 x3 : Int32) (h1 : 0 ≤ x1.toInt ∧ x1.toInt ≤ 5) (h2 : 0 ≤ x2.toInt ∧ x2.toInt ≤ 19) : ∀ (fu : Nat) (I : Nat → Int32) (L : Int64) (M : Nat → Nat → Int32) (y : Int32), KX12 I M → (0 ≤ y.toInt ∧ y.toInt ≤ 22) → 22 - y.toInt < (fu : Int) → wq (fX12_wheel_L86 N x1 x2 x3 fu I L M y) (fun r => KX12 r.2.1 r.2.2.2 ∧ True) := by
  intro fu
  induction fu with
  | zero => intro I L M y k hy hm; exfalso; omega
  | succ fu ih =>
    intro I L M y k hy hm
    rw [fX12_wheel_L86.eq_2]
    have l_22 := il_22
    have l_20 := il_20
    have l_1 := il_1
    refine wq_le (fun hc => wq_s ⟨k, trivial⟩) (fun hc => ?_)
    have t1 := ia_mul (20 : Int32) 20 il_20 x1 (by omega) (by omega)
    have t2 := ia_add ((20 : Int32) * x1) x2 (by omega) (by omega)
    have t3 := ia_mul (22 : Int32) 22 il_22 ((20 : Int32) * x1 + x2) (by omega) (by omega)
    have t4 := ia_add ((22 : Int32) * ((20 : Int32) * x1 + x2)) y (by omega) (by omega)
    refine wq_in (n := 22) ⟨by omega, by omega⟩ ?_
    refine wq_in (n := 2640) ⟨by omega, by omega⟩ ?_
    refine wq_v (fun M2 e2 => ?_)
    have k2 : KX12 I M2 := by
      rw [e2]
      refine KX12.sm7 k (k.m16 _) (EN.um k.een (fun n e he q => ?_))
      have n1 := tn_of ((22 : Int32) * ((20 : Int32) * x1 + x2) + y) (by omega)
      have n2 := tn_of y (by omega)
      exact k.edn y.toNatClampNeg (by omega)
    have t5 := ia_add y (1 : Int32) (by omega) (by omega)
    refine wq_v (fun v e => ?_)
    have t6 := congrArg Int32.toInt e
    exact ih I L M2 v k2 ⟨by omega, by omega⟩ (by omega)
theorem tt_wh71 {N : Nat} (hN : 3000000000 ≤ N) (x1 x2 x3 : Int32) (h1 : 0 ≤ x1.toInt ∧ x1.toInt ≤ 5) (h2 : 0 ≤ x2.toInt ∧ x2.toInt ≤ 19) (I : Nat → Int32) (L : Int64) (M : Nat → Nat → Int32) (k : KX12 I M) : wq (fX12_wheel_J71 N x1 x2 x3 I L M) (fun r => KX12 r.2.1 r.2.2.2 ∧ True) := by
  unfold fX12_wheel_J71
  refine wq_b (tt_good N I L M) (fun r1 _ => ?_)
  refine wq_i (fun hc => wq_s ⟨k, trivial⟩) (fun hc => ?_)
  have l_0 := il_0
  exact tt_wh86 hN x1 x2 x3 h1 h2 N I L M (0 : Int32) k ⟨by omega, by omega⟩ (by omega)
theorem tt_wh50 {N : Nat} (hN : 3000000000 ≤ N) (x1 x2 x3 : Int32) (g : (Nat → Int32) → Int64 → (Nat → Nat → Int32) → Int32 → Option (Int32 × (Nat → Int32) × Int64 × (Nat → Nat → Int32))) (h1 : 0 ≤ x1.toInt ∧ x1.toInt ≤ 5) (h2 : 0 ≤ x2.toInt ∧ x2.toInt ≤ 19) : ∀ (fu : Nat) (I : Nat → Int32) (L : Int64) (M : Nat → Nat → Int32), KX12 I M → 0 < fu → ((I 4).toInt ≠ 0 ∨ (I 8).toInt = 0 ∨ 601 - (I 7).toInt < (fu : Int)) → wq (fX12_wheel_L50 N x1 x2 x3 g fu I L M) (fun r => KX12 r.2.1 r.2.2.2 ∧ True) := by
  intro fu
  induction fu with
  | zero => intro I L M k h0 h; exact absurd h0 (by decide)
  | succ fu ih =>
    intro I L M k h0 h
    rw [fX12_wheel_L50.eq_2]
    refine wq_b (tt_good N I L M) (fun r1 hr1 => ?_)
    have l_0 := il_0
    refine wq_eq (fun hc => tt_wh71 hN x1 x2 x3 h1 h2 I L M k) (fun hc => ?_)
    refine wq_eq (fun hc2 => tt_wh71 hN x1 x2 x3 h1 h2 I L M k) (fun hc2 => ?_)
    refine wq_b (tt_re hN I L M k) (fun r hr => ?_)
    have a1 := hr.2
    have a2 := hr.1.2.2
    have a3 := hr.1.1.i7
    have a4 := k.i7
    refine ih r.1 r.2.1 r.2.2 hr.1.1 (by omega) ?_
    omega
theorem tt_wh29 {N : Nat} (hN : 3000000000 ≤ N) (x1 x2 x3 : Int32) (h1 : 0 ≤ x1.toInt ∧ x1.toInt ≤ 5) (h2 : 0 ≤ x2.toInt ∧ x2.toInt ≤ 19) : ∀ (fu : Nat) (I : Nat → Int32) (L : Int64) (M : Nat → Nat → Int32) (y : Int32), KX12 I M → (0 ≤ y.toInt ∧ y.toInt ≤ 22) → 22 - y.toInt < (fu : Int) → wq (fX12_wheel_L29 N x1 x2 x3 fu I L M y) (fun r => KX12 r.2.1 r.2.2.2 ∧ True) := by
  intro fu
  induction fu with
  | zero => intro I L M y k hy hm; exfalso; omega
  | succ fu ih =>
    intro I L M y k hy hm
    rw [fX12_wheel_L29.eq_2]
    have l_22 := il_22
    have l_m1 := il_m1
    have l_1 := il_1
    have i7 := k.i7
    refine wq_le (fun hc => tt_wh50 hN x1 x2 x3 _ h1 h2 N I L M k (by omega) (Or.inr (Or.inr (by omega)))) (fun hc => ?_)
    refine wq_in (n := 22) ⟨by omega, by omega⟩ ?_
    refine wq_v (fun M2 e2 => ?_)
    have k2 : KX12 I M2 := by
      rw [e2]
      exact KX12.sm16 k ⟨by decide, by decide⟩ (DN.um k.edn (fun _ => by decide))
    have t5 := ia_add y (1 : Int32) (by omega) (by omega)
    refine wq_v (fun v e => ?_)
    have t6 := congrArg Int32.toInt e
    exact ih I L M2 v k2 ⟨by omega, by omega⟩ (by omega)
theorem tt_fX12_wheel {N : Nat} (hN : 3000000000 ≤ N) (I0 : Nat → Int32) (L0 : Int64) (M0 : Nat → Nat → Int32) (x1 : Int32) (x2 : Int32) (x3 : Int32) (k_I0 : KX12 I0 M0) : wq (fX12_wheel N I0 L0 M0 x1 x2 x3) (fun r => KX12 r.2.1 r.2.2.2 ∧ True) := by
  unfold fX12_wheel
  refine wq_b (tt_fX12_isWheel hN I0 L0 M0 x1 x2 k_I0) (fun r hr => ?_)
  have l_0 := il_0
  obtain ⟨hr0, -, hrx⟩ := hr
  have k : KX12 r.2.1 r.2.2.2 := by first | exact hrx.1 | exact hrx.2.1
  refine wq_eq (fun hc => wq_s ⟨k, trivial⟩) (fun hc => ?_)
  refine wq_v (fun I2 e2 => ?_)
  have k2 : KX12 I2 r.2.2.2 := by rw [e2]; exact KX12.si12 k ⟨by decide, by decide⟩
  refine wq_b (tt_fX12_begins hN I2 r.2.2.1 r.2.2.2 x3 k2) (fun q hq => ?_)
  obtain ⟨-, kq, -⟩ := hq
  refine wq_i (fun hc => wq_s ⟨kq, trivial⟩) (fun hc2 => ?_)
  exact tt_wh29 hN x1 x2 x3 ⟨by omega, by omega⟩ ⟨by omega, by omega⟩ N _ _ _ (0 : Int32) kq ⟨by omega, by omega⟩ (by omega)
set_option maxHeartbeats 4000000 in
theorem tt_fX12_fault {N : Nat} (hN : 3000000000 ≤ N) (I0 : Nat → Int32) (L0 : Int64) (M0 : Nat → Nat → Int32) (k_I0 : KX12 I0 M0) : wq (fX12_fault N I0 L0 M0) (fun r => KX12 r.2.1 r.2.2.2 ∧ True) := by
  unfold fX12_fault
  refine wq_v (fun I0_1_q30600 h_I0_1_q30600 => ?_)
  have k_I0_1_q30600 : KX12 I0_1_q30600 M0 := by rw [h_I0_1_q30600]; exact KX12.si0 k_I0
  have t_30601 : (I0_1_q30600 5).toInt = (I0 5).toInt := by rw [h_I0_1_q30600]; rfl
  exact wq_s ⟨k_I0_1_q30600, trivial⟩
theorem tt_fX12_at {N : Nat} (hN : 3000000000 ≤ N) (I0 : Nat → Int32) (L0 : Int64) (M0 : Nat → Nat → Int32) (x1 : Int32) (x2 : Int32) (h_x1 : 0 ≤ x1.toInt ∧ x1.toInt ≤ 119) (h_x2 : 0 ≤ x2.toInt ∧ x2.toInt ≤ 21) (k_I0 : KX12 I0 M0) : wq (fX12_at N I0 L0 M0 x1 x2) (fun r => (r.toInt ≤ 359 ∨ x2.toInt = 21) ∧ (r.toInt = (M0 7 (((22 : Int32) * x1) + x2).toNatClampNeg).toInt) ∧ (-1 ≤ r.toInt ∧ r.toInt ≤ 389) ∧ True) := by
  unfold fX12_at
  have l_22 := il_22
  have t1 := ia_mul (22 : Int32) 22 il_22 x1 (by omega) (by omega)
  have t2 := ia_add ((22 : Int32) * x1) x2 (by omega) (by omega)
  refine wq_in (n := 2640) ⟨by omega, by omega⟩ ?_
  have tn := tn_of (((22 : Int32) * x1) + x2) (by omega)
  have e : (((22 : Int32) * x1) + x2).toNatClampNeg = 22 * x1.toInt.toNat + x2.toInt.toNat := by omega
  refine wq_s ⟨?_, rfl, k_I0.m7 _, trivial⟩
  by_cases h : x2.toInt = 21
  · exact Or.inr h
  · left
    rw [e]
    exact k_I0.een _ _ (by omega)
set_option maxHeartbeats 4000000 in
theorem tt_fX12_tells_L4 {N : Nat} (hN : 3000000000 ≤ N) (I0 : Nat → Int32) (L0 : Int64) (M0 : Nat → Nat → Int32) (x1 : Int32) (h_x1 : 0 ≤ x1.toInt ∧ x1.toInt ≤ 119) (k_I0 : KX12 I0 M0)  : ∀ (fu : Nat) (y4_2 : Int32) (y4_3 : Int32), (0 ≤ y4_2.toInt ∧ y4_2.toInt ≤ 1) → (0 ≤ y4_3.toInt ∧ y4_3.toInt ≤ 22) → (22 - y4_3.toInt) < (fu : Int) → wq (fX12_tells_L4 N I0 L0 M0 x1 fu y4_2 y4_3) (fun r => (0 ≤ r.toInt ∧ r.toInt ≤ 1) ∧ True) := by
  intro fu
  induction fu with
  | zero => intro y4_2 y4_3 h_y4_2 h_y4_3 hm; exfalso; omega
  | succ fu ih =>
    intro y4_2 y4_3 h_y4_2 h_y4_3 hm
    rw [fX12_tells_L4.eq_2]
    have l_22 := il_22
    refine wq_le (fun hc_30743 => ?_) (fun hc_30744 => ?_)
    · refine wq_bz (by omega) ?_
      exact wq_s ⟨(show 0 ≤ y4_2.toInt ∧ y4_2.toInt ≤ 1 from ⟨by omega, by omega⟩), trivial⟩
    · have l_0 := il_0
      refine wq_eq (fun hc_30745 => ?_) (fun hc_30746 => ?_)
      · refine wq_b (tt_fX12_at hN I0 L0 M0 x1 y4_3 ⟨by omega, by omega⟩ ⟨by omega, by omega⟩ k_I0) (fun r2_q30747 h_r2_q30747 => ?_)
        obtain ⟨h_r2_q30747_0, h_r2_q30747_1, h_r2_q30747_2, -⟩ := h_r2_q30747
        have l_m1 := il_m1
        refine wq_eq (fun hc_30748 => ?_) (fun hc_30749 => ?_)
        · have l_1 := il_1
          have t_30751 := ia_add y4_3 (1 : Int32) (by omega) (by omega)
          refine wq_v (fun v3_q30750 h_v3_q30750 => ?_)
          have t_v3_q30750 := congrArg Int32.toInt h_v3_q30750
          exact ih (0 : Int32) v3_q30750 ⟨by omega, by omega⟩ ⟨by omega, by omega⟩ (by omega)
        · have l_1 := il_1
          have t_30753 := ia_add y4_3 (1 : Int32) (by omega) (by omega)
          refine wq_v (fun v4_q30752 h_v4_q30752 => ?_)
          have t_v4_q30752 := congrArg Int32.toInt h_v4_q30752
          exact ih (1 : Int32) v4_q30752 ⟨by omega, by omega⟩ ⟨by omega, by omega⟩ (by omega)
      · have l_1 := il_1
        have t_30755 := ia_add y4_3 (1 : Int32) (by omega) (by omega)
        refine wq_v (fun v1_q30754 h_v1_q30754 => ?_)
        have t_v1_q30754 := congrArg Int32.toInt h_v1_q30754
        exact ih (1 : Int32) v1_q30754 ⟨by omega, by omega⟩ ⟨by omega, by omega⟩ (by omega)
set_option maxHeartbeats 4000000 in
theorem tt_fX12_tells {N : Nat} (hN : 3000000000 ≤ N) (I0 : Nat → Int32) (L0 : Int64) (M0 : Nat → Nat → Int32) (x1 : Int32) (h_x1 : 0 ≤ x1.toInt ∧ x1.toInt ≤ 119) (k_I0 : KX12 I0 M0) : wq (fX12_tells N I0 L0 M0 x1) (fun r => (0 ≤ r.toInt ∧ r.toInt ≤ 1) ∧ True) := by
  unfold fX12_tells
  have l_0 := il_0
  exact tt_fX12_tells_L4 hN I0 L0 M0 x1 ⟨by omega, by omega⟩ k_I0 N (0 : Int32) (0 : Int32) ⟨by omega, by omega⟩ ⟨by omega, by omega⟩ (by omega)
set_option maxHeartbeats 4000000 in
theorem tt_fX12_bookTells_L4 {N : Nat} (hN : 3000000000 ≤ N) (I0 : Nat → Int32) (L0 : Int64) (M0 : Nat → Nat → Int32) (x1 : Int32) (h_x1 : 0 ≤ x1.toInt ∧ x1.toInt ≤ 5) (k_I0 : KX12 I0 M0)  : ∀ (fu : Nat) (y4_2 : Int32) (y4_3 : Int32), (0 ≤ y4_2.toInt ∧ y4_2.toInt ≤ 1) → (0 ≤ y4_3.toInt ∧ y4_3.toInt ≤ 20) → (20 - y4_3.toInt) < (fu : Int) → wq (fX12_bookTells_L4 N I0 L0 M0 x1 fu y4_2 y4_3) (fun r => (0 ≤ r.toInt ∧ r.toInt ≤ 1) ∧ True) := by
  intro fu
  induction fu with
  | zero => intro y4_2 y4_3 h_y4_2 h_y4_3 hm; exfalso; omega
  | succ fu ih =>
    intro y4_2 y4_3 h_y4_2 h_y4_3 hm
    rw [fX12_bookTells_L4.eq_2]
    have l_20 := il_20
    refine wq_le (fun hc_30949 => ?_) (fun hc_30950 => ?_)
    · refine wq_bz (by omega) ?_
      exact wq_s ⟨(show 0 ≤ y4_2.toInt ∧ y4_2.toInt ≤ 1 from ⟨by omega, by omega⟩), trivial⟩
    · have l_0 := il_0
      refine wq_eq (fun hc_30951 => ?_) (fun hc_30952 => ?_)
      · have t_30953 := ia_mul (20 : Int32) (20) il_20 x1 (by omega) (by omega)
        have t_30954 := ia_add ((20 : Int32) * x1) y4_3 (by omega) (by omega)
        refine wq_b (tt_fX12_tells hN I0 L0 M0 (((20 : Int32) * x1) + y4_3) ⟨by omega, by omega⟩ k_I0) (fun r2_q30955 h_r2_q30955 => ?_)
        obtain ⟨h_r2_q30955_0, -⟩ := h_r2_q30955
        refine wq_eq (fun hc_30956 => ?_) (fun hc_30957 => ?_)
        · have l_1 := il_1
          have t_30959 := ia_add y4_3 (1 : Int32) (by omega) (by omega)
          refine wq_v (fun v3_q30958 h_v3_q30958 => ?_)
          have t_v3_q30958 := congrArg Int32.toInt h_v3_q30958
          exact ih (0 : Int32) v3_q30958 ⟨by omega, by omega⟩ ⟨by omega, by omega⟩ (by omega)
        · have l_1 := il_1
          have t_30961 := ia_add y4_3 (1 : Int32) (by omega) (by omega)
          refine wq_v (fun v4_q30960 h_v4_q30960 => ?_)
          have t_v4_q30960 := congrArg Int32.toInt h_v4_q30960
          exact ih (1 : Int32) v4_q30960 ⟨by omega, by omega⟩ ⟨by omega, by omega⟩ (by omega)
      · have l_1 := il_1
        have t_30963 := ia_add y4_3 (1 : Int32) (by omega) (by omega)
        refine wq_v (fun v1_q30962 h_v1_q30962 => ?_)
        have t_v1_q30962 := congrArg Int32.toInt h_v1_q30962
        exact ih (1 : Int32) v1_q30962 ⟨by omega, by omega⟩ ⟨by omega, by omega⟩ (by omega)
set_option maxHeartbeats 4000000 in
theorem tt_fX12_bookTells {N : Nat} (hN : 3000000000 ≤ N) (I0 : Nat → Int32) (L0 : Int64) (M0 : Nat → Nat → Int32) (x1 : Int32) (h_x1 : 0 ≤ x1.toInt ∧ x1.toInt ≤ 5) (k_I0 : KX12 I0 M0) : wq (fX12_bookTells N I0 L0 M0 x1) (fun r => (0 ≤ r.toInt ∧ r.toInt ≤ 1) ∧ True) := by
  unfold fX12_bookTells
  have l_0 := il_0
  exact tt_fX12_bookTells_L4 hN I0 L0 M0 x1 ⟨by omega, by omega⟩ k_I0 N (0 : Int32) (0 : Int32) ⟨by omega, by omega⟩ ⟨by omega, by omega⟩ (by omega)
theorem tt_fX12_floor {N : Nat} (hN : 3000000000 ≤ N) (x0 : Int64) (x1 : Int64) (hr_0 : x1 ≠ 0) : wq (fX12_floor N x0 x1) (fun r => True) := by
  unfold fX12_floor
  refine wq_n hr_0 (wq_v (fun v1 e1 => ?_))
  refine wq_n hr_0 ?_
  refine wq_i (fun _ => wq_s trivial) (fun _ => wq_i (fun _ => wq_s trivial) (fun _ => wq_s trivial))
theorem tt_fX12_placeOn {N : Nat} (hN : 3000000000 ≤ N) (I0 : Nat → Int32) (L0 : Int64) (M0 : Nat → Nat → Int32) (x1 : Int32) (x2 : Int32) (x3 : Int32) (h_x1 : 0 ≤ x1.toInt ∧ x1.toInt ≤ 3) (h_x2 : 0 ≤ x2.toInt ∧ x2.toInt ≤ 6) (k_I0 : KX12 I0 M0) : wq (fX12_placeOn N I0 L0 M0 x1 x2 x3) (fun r => True) := by
  unfold fX12_placeOn
  have l_7 := il_7
  have ta := ia_mul (7 : Int32) 7 il_7 x1 (by omega) (by omega)
  have tb := ia_add ((7 : Int32) * x1) x2 (by omega) (by omega)
  refine wq_v (fun v4 e4 => ?_)
  have tv := congrArg Int32.toInt e4
  have hin : 0 ≤ v4.toInt ∧ v4.toInt < ((28 : Nat) : Int) := ⟨by omega, by omega⟩
  have tn4 := tn_of v4 hin.1
  have k3 := k_I0.epd v4.toNatClampNeg (by omega)
  have hJ : ∀ a b c : Int64, wq (fX12_placeOn_J79 N I0 L0 M0 x1 x2 x3 v4 a b c) (fun r => True) := by
    intro a b c
    unfold fX12_placeOn_J79
    refine wq_in hin (wq_in hin (wq_in hin ?_))
    refine wq_b (tt_fX12_floor hN _ _ (i64nz (by omega))) (fun r1 _ => wq_v (fun v2 _ => wq_v (fun v3 _ => ?_)))
    exact wq_i (fun _ => wq_s trivial) (fun _ => wq_s trivial)
  refine wq_in hin (wq_nz (by omega) (wq_v (fun v5 _ => ?_)))
  refine wq_in hin (wq_v (fun v6 _ => ?_))
  refine wq_in hin (wq_in hin ?_)
  exact wq_i (fun _ => hJ _ _ _) (fun _ => hJ _ _ _)
set_option maxHeartbeats 4000000 in
theorem tt_fX12_place {N : Nat} (hN : 3000000000 ≤ N) (I0 : Nat → Int32) (L0 : Int64) (M0 : Nat → Nat → Int32) (x1 : Int32) (x2 : Int32) (x3 : Int32) (k_I0 : KX12 I0 M0) : wq (fX12_place N I0 L0 M0 x1 x2 x3) (fun r => KX12 r.2.1 r.2.2.2 ∧ True) := by
  unfold fX12_place
  refine wq_v (fun I0_3_q31252 h_I0_3_q31252 => ?_)
  have k_I0_3_q31252 : KX12 I0_3_q31252 M0 := by rw [h_I0_3_q31252]; exact KX12.si0 k_I0
  have b_31253 := i32b x1
  have l_0 := il_0
  have l_3 := il_3
  refine wq_b (tt_fX12_within hN x1 (0 : Int32) (3 : Int32)) (fun r4_q31254 h_r4_q31254 => ?_)
  obtain ⟨h_r4_q31254_0, h_r4_q31254_1, -⟩ := h_r4_q31254
  refine wq_eq (fun hc_31255 => ?_) (fun hc_31256 => ?_)
  · unfold fX12_place_J39
    unfold fX12_place_J40
    have l_1 := il_1
    refine wq_b (tt_fX12_right hN I0_3_q31252 L0 M0 (0 : Int32) (1 : Int32) ⟨by omega, by omega⟩ k_I0_3_q31252) (fun r1_q31257 h_r1_q31257 => ?_)
    obtain ⟨h_r1_q31257_0, h_r1_q31257_1, h_r1_q31257_2, h_r1_q31257_3, -⟩ := h_r1_q31257
    have t_31258 := KX12.i1 h_r1_q31257_3
    have t_31259 := KX12.i1 k_I0
    have t_31260 : (I0_3_q31252 1).toInt = (I0 1).toInt := by rw [h_I0_3_q31252]; rfl
    refine wq_eq (fun hc_31261 => ?_) (fun hc_31262 => ?_)
    · exact wq_s ⟨h_r1_q31257_3, trivial⟩
    · have b_31263 := i32b x2
      have b_31264 := i32b x3
      refine wq_b (tt_fX12_placeOn hN r1_q31257.2.1 r1_q31257.2.2.1 r1_q31257.2.2.2 x1 x2 x3 ⟨by omega, by omega⟩ ⟨by omega, by omega⟩ h_r1_q31257_3) (fun r2_q31265 h_r2_q31265 => ?_)
      obtain ⟨-⟩ := h_r2_q31265
      have b_31266 := i32b r2_q31265
      exact wq_s ⟨h_r1_q31257_3, trivial⟩
  · have b_31267 := i32b x2
    have l_6 := il_6
    refine wq_b (tt_fX12_within hN x2 (0 : Int32) (6 : Int32)) (fun r5_q31268 h_r5_q31268 => ?_)
    obtain ⟨h_r5_q31268_0, h_r5_q31268_1, -⟩ := h_r5_q31268
    refine wq_eq (fun hc_31269 => ?_) (fun hc_31270 => ?_)
    · unfold fX12_place_J39
      unfold fX12_place_J40
      have l_1 := il_1
      refine wq_b (tt_fX12_right hN I0_3_q31252 L0 M0 (0 : Int32) (1 : Int32) ⟨by omega, by omega⟩ k_I0_3_q31252) (fun r1_q31271 h_r1_q31271 => ?_)
      obtain ⟨h_r1_q31271_0, h_r1_q31271_1, h_r1_q31271_2, h_r1_q31271_3, -⟩ := h_r1_q31271
      have t_31272 := KX12.i1 h_r1_q31271_3
      have t_31273 := KX12.i1 k_I0
      have t_31274 : (I0_3_q31252 1).toInt = (I0 1).toInt := by rw [h_I0_3_q31252]; rfl
      refine wq_eq (fun hc_31275 => ?_) (fun hc_31276 => ?_)
      · exact wq_s ⟨h_r1_q31271_3, trivial⟩
      · have b_31277 := i32b x3
        refine wq_b (tt_fX12_placeOn hN r1_q31271.2.1 r1_q31271.2.2.1 r1_q31271.2.2.2 x1 x2 x3 ⟨by omega, by omega⟩ ⟨by omega, by omega⟩ h_r1_q31271_3) (fun r2_q31278 h_r2_q31278 => ?_)
        obtain ⟨-⟩ := h_r2_q31278
        have b_31279 := i32b r2_q31278
        exact wq_s ⟨h_r1_q31271_3, trivial⟩
    · have b_31280 := i32b x3
      have l_1000000 := il_1000000
      refine wq_b (tt_fX12_within hN x3 (0 : Int32) (1000000 : Int32)) (fun r6_q31281 h_r6_q31281 => ?_)
      obtain ⟨h_r6_q31281_0, h_r6_q31281_1, -⟩ := h_r6_q31281
      refine wq_eq (fun hc_31282 => ?_) (fun hc_31283 => ?_)
      · unfold fX12_place_J39
        unfold fX12_place_J40
        have l_1 := il_1
        refine wq_b (tt_fX12_right hN I0_3_q31252 L0 M0 (0 : Int32) (1 : Int32) ⟨by omega, by omega⟩ k_I0_3_q31252) (fun r1_q31284 h_r1_q31284 => ?_)
        obtain ⟨h_r1_q31284_0, h_r1_q31284_1, h_r1_q31284_2, h_r1_q31284_3, -⟩ := h_r1_q31284
        have t_31285 := KX12.i1 h_r1_q31284_3
        have t_31286 := KX12.i1 k_I0
        have t_31287 : (I0_3_q31252 1).toInt = (I0 1).toInt := by rw [h_I0_3_q31252]; rfl
        refine wq_eq (fun hc_31288 => ?_) (fun hc_31289 => ?_)
        · exact wq_s ⟨h_r1_q31284_3, trivial⟩
        · refine wq_b (tt_fX12_placeOn hN r1_q31284.2.1 r1_q31284.2.2.1 r1_q31284.2.2.2 x1 x2 x3 ⟨by omega, by omega⟩ ⟨by omega, by omega⟩ h_r1_q31284_3) (fun r2_q31290 h_r2_q31290 => ?_)
          obtain ⟨-⟩ := h_r2_q31290
          have b_31291 := i32b r2_q31290
          exact wq_s ⟨h_r1_q31284_3, trivial⟩
      · unfold fX12_place_J40
        have l_1 := il_1
        refine wq_b (tt_fX12_right hN I0_3_q31252 L0 M0 (1 : Int32) (1 : Int32) ⟨by omega, by omega⟩ k_I0_3_q31252) (fun r1_q31292 h_r1_q31292 => ?_)
        obtain ⟨h_r1_q31292_0, h_r1_q31292_1, h_r1_q31292_2, h_r1_q31292_3, -⟩ := h_r1_q31292
        have t_31293 := KX12.i1 h_r1_q31292_3
        have t_31294 := KX12.i1 k_I0
        have t_31295 : (I0_3_q31252 1).toInt = (I0 1).toInt := by rw [h_I0_3_q31252]; rfl
        refine wq_eq (fun hc_31296 => ?_) (fun hc_31297 => ?_)
        · exact wq_s ⟨h_r1_q31292_3, trivial⟩
        · refine wq_b (tt_fX12_placeOn hN r1_q31292.2.1 r1_q31292.2.2.1 r1_q31292.2.2.2 x1 x2 x3 ⟨by omega, by omega⟩ ⟨by omega, by omega⟩ h_r1_q31292_3) (fun r2_q31298 h_r2_q31298 => ?_)
          obtain ⟨-⟩ := h_r2_q31298
          have b_31299 := i32b r2_q31298
          exact wq_s ⟨h_r1_q31292_3, trivial⟩
set_option maxHeartbeats 4000000 in
theorem tt_fX12_entry {N : Nat} (hN : 3000000000 ≤ N) (I0 : Nat → Int32) (L0 : Int64) (M0 : Nat → Nat → Int32) (x1 : Int32) (x2 : Int32) (x3 : Int32) (k_I0 : KX12 I0 M0) : wq (fX12_entry N I0 L0 M0 x1 x2 x3) (fun r => (-1 ≤ r.1.toInt ∧ r.1.toInt ≤ 389) ∧ KX12 r.2.1 r.2.2.2 ∧ True) := by
  unfold fX12_entry
  have b_31396 := i32b x1
  have b_31397 := i32b x2
  refine wq_b (tt_fX12_isWheel hN I0 L0 M0 x1 x2 k_I0) (fun r1_q31398 h_r1_q31398 => ?_)
  obtain ⟨h_r1_q31398_0, h_r1_q31398_1, h_r1_q31398_2, h_r1_q31398_3, -⟩ := h_r1_q31398
  have t_31399 := KX12.i1 h_r1_q31398_3
  have t_31400 := KX12.i1 k_I0
  have l_0 := il_0
  refine wq_eq (fun hc_31401 => ?_) (fun hc_31402 => ?_)
  · exact wq_s ⟨(show -1 ≤ (0 : Int32).toInt ∧ (0 : Int32).toInt ≤ 389 from ⟨by omega, by omega⟩), h_r1_q31398_3, trivial⟩
  · have b_31403 := i32b x3
    have l_21 := il_21
    refine wq_b (tt_fX12_within hN x3 (0 : Int32) (21 : Int32)) (fun r2_q31404 h_r2_q31404 => ?_)
    obtain ⟨h_r2_q31404_0, h_r2_q31404_1, -⟩ := h_r2_q31404
    have l_1 := il_1
    refine wq_b (tt_fX12_right hN r1_q31398.2.1 r1_q31398.2.2.1 r1_q31398.2.2.2 r2_q31404 (1 : Int32) ⟨by omega, by omega⟩ h_r1_q31398_3) (fun r3_q31405 h_r3_q31405 => ?_)
    obtain ⟨h_r3_q31405_0, h_r3_q31405_1, h_r3_q31405_2, h_r3_q31405_3, -⟩ := h_r3_q31405
    have t_31406 := KX12.i1 h_r3_q31405_3
    refine wq_eq (fun hc_31407 => ?_) (fun hc_31408 => ?_)
    · exact wq_s ⟨(show -1 ≤ (0 : Int32).toInt ∧ (0 : Int32).toInt ≤ 389 from ⟨by omega, by omega⟩), h_r3_q31405_3, trivial⟩
    · have l_20 := il_20
      have t_31409 := ia_mul (20 : Int32) (20) il_20 x1 (by omega) (by omega)
      have t_31410 := ia_add ((20 : Int32) * x1) x2 (by omega) (by omega)
      refine wq_b (tt_fX12_at hN r3_q31405.2.1 r3_q31405.2.2.1 r3_q31405.2.2.2 (((20 : Int32) * x1) + x2) x3 ⟨by omega, by omega⟩ ⟨by omega, by omega⟩ h_r3_q31405_3) (fun r4_q31411 h_r4_q31411 => ?_)
      obtain ⟨h_r4_q31411_0, h_r4_q31411_1, h_r4_q31411_2, -⟩ := h_r4_q31411
      exact wq_s ⟨(show -1 ≤ r4_q31411.toInt ∧ r4_q31411.toInt ≤ 389 from ⟨by omega, by omega⟩), h_r3_q31405_3, trivial⟩
set_option maxHeartbeats 4000000 in
theorem tt_fX12_isHand_L5 {N : Nat} (hN : 3000000000 ≤ N) (I0 : Nat → Int32) (L0 : Int64) (M0 : Nat → Nat → Int32) (x1 : Int32) (x2 : Int32) (k_I0 : KX12 I0 M0)  : ∀ (fu : Nat) (y5_3 : Int32) (y5_4 : Int32), (0 ≤ y5_3.toInt ∧ y5_3.toInt ≤ 1) → (0 ≤ y5_4.toInt ∧ y5_4.toInt ≤ 30) → (30 - y5_4.toInt) < (fu : Int) → wq (fX12_isHand_L5 N I0 L0 M0 x1 x2 fu y5_3 y5_4) (fun r => (0 ≤ r.toInt ∧ r.toInt ≤ 1) ∧ True) := by
  intro fu
  induction fu with
  | zero => intro y5_3 y5_4 h_y5_3 h_y5_4 hm; exfalso; omega
  | succ fu ih =>
    intro y5_3 y5_4 h_y5_3 h_y5_4 hm
    rw [fX12_isHand_L5.eq_2]
    have t_31601 := KX12.i2 k_I0
    refine wq_le (fun hc_31602 => ?_) (fun hc_31603 => ?_)
    · refine wq_bz (by omega) ?_
      exact wq_s ⟨(show 0 ≤ y5_3.toInt ∧ y5_3.toInt ≤ 1 from ⟨by omega, by omega⟩), trivial⟩
    · have l_0 := il_0
      refine wq_eq (fun hc_31604 => ?_) (fun hc_31605 => ?_)
      · refine wq_in (n := 30) ⟨by omega, by omega⟩ ?_
        have b_31606 := i32b x1
        refine wq_eq (fun hc_31607 => ?_) (fun hc_31608 => ?_)
        · refine wq_in (n := 30) ⟨by omega, by omega⟩ ?_
          have b_31609 := i32b x2
          refine wq_eq (fun hc_31610 => ?_) (fun hc_31611 => ?_)
          · have l_1 := il_1
            have t_31613 := ia_add y5_4 (1 : Int32) (by omega) (by omega)
            refine wq_v (fun v4_q31612 h_v4_q31612 => ?_)
            have t_v4_q31612 := congrArg Int32.toInt h_v4_q31612
            exact ih (1 : Int32) v4_q31612 ⟨by omega, by omega⟩ ⟨by omega, by omega⟩ (by omega)
          · have l_1 := il_1
            have t_31615 := ia_add y5_4 (1 : Int32) (by omega) (by omega)
            refine wq_v (fun v3_q31614 h_v3_q31614 => ?_)
            have t_v3_q31614 := congrArg Int32.toInt h_v3_q31614
            exact ih (0 : Int32) v3_q31614 ⟨by omega, by omega⟩ ⟨by omega, by omega⟩ (by omega)
        · have l_1 := il_1
          have t_31617 := ia_add y5_4 (1 : Int32) (by omega) (by omega)
          refine wq_v (fun v2_q31616 h_v2_q31616 => ?_)
          have t_v2_q31616 := congrArg Int32.toInt h_v2_q31616
          exact ih (0 : Int32) v2_q31616 ⟨by omega, by omega⟩ ⟨by omega, by omega⟩ (by omega)
      · have l_1 := il_1
        have t_31619 := ia_add y5_4 (1 : Int32) (by omega) (by omega)
        refine wq_v (fun v1_q31618 h_v1_q31618 => ?_)
        have t_v1_q31618 := congrArg Int32.toInt h_v1_q31618
        exact ih (1 : Int32) v1_q31618 ⟨by omega, by omega⟩ ⟨by omega, by omega⟩ (by omega)
set_option maxHeartbeats 4000000 in
theorem tt_fX12_isHand {N : Nat} (hN : 3000000000 ≤ N) (I0 : Nat → Int32) (L0 : Int64) (M0 : Nat → Nat → Int32) (x1 : Int32) (x2 : Int32) (k_I0 : KX12 I0 M0) : wq (fX12_isHand N I0 L0 M0 x1 x2) (fun r => (0 ≤ r.toInt ∧ r.toInt ≤ 1) ∧ True) := by
  unfold fX12_isHand
  have b_31620 := i32b x1
  have b_31621 := i32b x2
  have l_0 := il_0
  exact tt_fX12_isHand_L5 hN I0 L0 M0 x1 x2 k_I0 N (0 : Int32) (0 : Int32) ⟨by omega, by omega⟩ ⟨by omega, by omega⟩ (by omega)
set_option maxHeartbeats 4000000 in
theorem tt_fX12_beside {N : Nat} (hN : 3000000000 ≤ N) (I0 : Nat → Int32) (L0 : Int64) (M0 : Nat → Nat → Int32) (x1 : Int32) (x2 : Int32) (h_x1 : 0 ≤ x1.toInt ∧ x1.toInt ≤ 389) (k_I0 : KX12 I0 M0) : wq (fX12_beside N I0 L0 M0 x1 x2) (fun r => (0 ≤ r.toInt ∧ r.toInt ≤ 9) ∧ True) := by
  unfold fX12_beside
  have b_31742 := i32b x2
  refine wq_eq (fun hc_31743 => ?_) (fun hc_31744 => ?_)
  · have l_0 := il_0
    exact wq_s ⟨(show 0 ≤ (0 : Int32).toInt ∧ (0 : Int32).toInt ≤ 9 from ⟨by omega, by omega⟩), trivial⟩
  · have l_30 := il_30
    have t_31745 := ia_div x1 (30 : Int32) 30 il_30 (by decide) (by omega)
    have t_31746 := i32b x2
    have t_31747 := ia_div2 x2 (30 : Int32) 30 il_30 (by decide)
    refine wq_eq (fun hc_31748 => ?_) (fun hc_31749 => ?_)
    · have t_31750 := ia_rem x1 (30 : Int32) 30 il_30 (by decide) (by omega)
      have t_31751 := ia_rem2 x2 (30 : Int32) 30 il_30 (by decide)
      refine wq_b (tt_fX12_isHand hN I0 L0 M0 (x1 - ((x1 / (30 : Int32)) * (30 : Int32))) (x2 - ((x2 / (30 : Int32)) * (30 : Int32))) k_I0) (fun r2_q31752 h_r2_q31752 => ?_)
      obtain ⟨h_r2_q31752_0, -⟩ := h_r2_q31752
      have l_0 := il_0
      refine wq_eq (fun hc_31753 => ?_) (fun hc_31754 => ?_)
      · have l_9 := il_9
        exact wq_s ⟨(show 0 ≤ (9 : Int32).toInt ∧ (9 : Int32).toInt ≤ 9 from ⟨by omega, by omega⟩), trivial⟩
      · have l_1 := il_1
        exact wq_s ⟨(show 0 ≤ (1 : Int32).toInt ∧ (1 : Int32).toInt ≤ 9 from ⟨by omega, by omega⟩), trivial⟩
    · have t_31755 := ia_rem x1 (30 : Int32) 30 il_30 (by decide) (by omega)
      have t_31756 := ia_rem2 x2 (30 : Int32) 30 il_30 (by decide)
      refine wq_eq (fun hc_31757 => ?_) (fun hc_31758 => ?_)
      · refine wq_b (tt_fX12_isHand hN I0 L0 M0 (x1 / (30 : Int32)) (x2 / (30 : Int32)) k_I0) (fun r1_q31759 h_r1_q31759 => ?_)
        obtain ⟨h_r1_q31759_0, -⟩ := h_r1_q31759
        have l_0 := il_0
        refine wq_eq (fun hc_31760 => ?_) (fun hc_31761 => ?_)
        · have l_9 := il_9
          exact wq_s ⟨(show 0 ≤ (9 : Int32).toInt ∧ (9 : Int32).toInt ≤ 9 from ⟨by omega, by omega⟩), trivial⟩
        · have l_2 := il_2
          exact wq_s ⟨(show 0 ≤ (2 : Int32).toInt ∧ (2 : Int32).toInt ≤ 9 from ⟨by omega, by omega⟩), trivial⟩
      · have l_9 := il_9
        exact wq_s ⟨(show 0 ≤ (9 : Int32).toInt ∧ (9 : Int32).toInt ≤ 9 from ⟨by omega, by omega⟩), trivial⟩
set_option maxHeartbeats 4000000 in
theorem tt_fX12_costOf {N : Nat} (hN : 3000000000 ≤ N) (I0 : Nat → Int32) (L0 : Int64) (M0 : Nat → Nat → Int32) (x1 : Int32) (x2 : Int32) (h_x1 : 0 ≤ x1.toInt ∧ x1.toInt ≤ 389) (k_I0 : KX12 I0 M0) : wq (fX12_costOf N I0 L0 M0 x1 x2) (fun r => (0 ≤ r.toInt ∧ r.toInt ≤ 9) ∧ True) := by
  unfold fX12_costOf
  have b_31786 := i32b x2
  refine wq_b (tt_fX12_beside hN I0 L0 M0 x1 x2 ⟨by omega, by omega⟩ k_I0) (fun r1_q31787 h_r1_q31787 => ?_)
  obtain ⟨h_r1_q31787_0, -⟩ := h_r1_q31787
  have l_2 := il_2
  refine wq_eq (fun hc_31788 => ?_) (fun hc_31789 => ?_)
  · have l_1 := il_1
    exact wq_s ⟨(show 0 ≤ (1 : Int32).toInt ∧ (1 : Int32).toInt ≤ 9 from ⟨by omega, by omega⟩), trivial⟩
  · exact wq_s ⟨(show 0 ≤ r1_q31787.toInt ∧ r1_q31787.toInt ≤ 9 from ⟨by omega, by omega⟩), trivial⟩
set_option maxHeartbeats 4000000 in
theorem tt_fX12_costOn_L37 {N : Nat} (hN : 3000000000 ≤ N) (I0 : Nat → Int32) (L0 : Int64) (M0 : Nat → Nat → Int32) (x1 : Int32) (x2 : Int32) (x3 : Int32) (x4 : Int32) (h_x1 : 0 ≤ x1.toInt ∧ x1.toInt ≤ 119) (h_x2 : 0 ≤ x2.toInt ∧ x2.toInt ≤ 3) (k_I0 : KX12 I0 M0)  : ∀ (fu : Nat) (y37_5 : Int32) (y37_6 : Int32), (0 ≤ y37_5.toInt ∧ y37_5.toInt ≤ 93) → (0 ≤ y37_6.toInt ∧ y37_6.toInt ≤ 7) → (y37_5.toInt ≤ 30 + 9 * y37_6.toInt) → (7 - y37_6.toInt) < (fu : Int) → wq (fX12_costOn_L37 N I0 L0 M0 x1 x2 x3 x4 fu y37_5 y37_6) (fun r => (0 ≤ r.toInt ∧ r.toInt ≤ 93) ∧ True) := by
  intro fu
  induction fu with
  | zero => intro y37_5 y37_6 h_y37_5 h_y37_6 hl_2 hm; exfalso; omega
  | succ fu ih =>
    intro y37_5 y37_6 h_y37_5 h_y37_6 hl_2 hm
    rw [fX12_costOn_L37.eq_2]
    have l_7 := il_7
    refine wq_le (fun hc_32153 => ?_) (fun hc_32154 => ?_)
    · exact wq_s ⟨(show 0 ≤ y37_5.toInt ∧ y37_5.toInt ≤ 93 from ⟨by omega, by omega⟩), trivial⟩
    · have b_32155 := i32b x4
      refine wq_lt (fun hc_32156 => ?_) (fun hc_32157 => ?_)
      · exact wq_s ⟨(show 0 ≤ y37_5.toInt ∧ y37_5.toInt ≤ 93 from ⟨by omega, by omega⟩), trivial⟩
      · refine wq_b (tt_fX12_at hN I0 L0 M0 x1 y37_6 ⟨by omega, by omega⟩ ⟨by omega, by omega⟩ k_I0) (fun r1_q32158 h_r1_q32158 => ?_)
        obtain ⟨h_r1_q32158_0, h_r1_q32158_1, h_r1_q32158_2, -⟩ := h_r1_q32158
        have l_m1 := il_m1
        refine wq_eq (fun hc_32159 => ?_) (fun hc_32160 => ?_)
        · have l_1 := il_1
          have t_32162 := ia_add y37_6 (1 : Int32) (by omega) (by omega)
          refine wq_v (fun v2_q32161 h_v2_q32161 => ?_)
          have t_v2_q32161 := congrArg Int32.toInt h_v2_q32161
          exact ih y37_5 v2_q32161 ⟨by omega, by omega⟩ ⟨by omega, by omega⟩ (by omega) (by omega)
        · refine wq_b (tt_fX12_at hN I0 L0 M0 x1 y37_6 ⟨by omega, by omega⟩ ⟨by omega, by omega⟩ k_I0) (fun r3_q32163 h_r3_q32163 => ?_)
          obtain ⟨h_r3_q32163_0, h_r3_q32163_1, h_r3_q32163_2, -⟩ := h_r3_q32163
          have b_32164 := i32b x3
          refine wq_b (tt_fX12_placeOn hN I0 L0 M0 x2 y37_6 x3 ⟨by omega, by omega⟩ ⟨by omega, by omega⟩ k_I0) (fun r4_q32165 h_r4_q32165 => ?_)
          obtain ⟨-⟩ := h_r4_q32165
          have b_32166 := i32b r4_q32165
          have l_60 := il_60
          have t_32167 := i32b r4_q32165
          have t_32168 := ia_div2 r4_q32165 (60 : Int32) 60 il_60 (by decide)
          refine wq_b (tt_fX12_costOf hN I0 L0 M0 r3_q32163 (r4_q32165 / (60 : Int32)) ⟨by omega, by omega⟩ k_I0) (fun r5_q32169 h_r5_q32169 => ?_)
          obtain ⟨h_r5_q32169_0, -⟩ := h_r5_q32169
          have t_32171 := ia_add y37_5 r5_q32169 (by omega) (by omega)
          refine wq_v (fun v6_q32170 h_v6_q32170 => ?_)
          have t_v6_q32170 := congrArg Int32.toInt h_v6_q32170
          have l_1 := il_1
          have t_32173 := ia_add y37_6 (1 : Int32) (by omega) (by omega)
          refine wq_v (fun v7_q32172 h_v7_q32172 => ?_)
          have t_v7_q32172 := congrArg Int32.toInt h_v7_q32172
          exact ih v6_q32170 v7_q32172 ⟨by omega, by omega⟩ ⟨by omega, by omega⟩ (by omega) (by omega)
set_option maxHeartbeats 4000000 in
theorem tt_fX12_costOn {N : Nat} (hN : 3000000000 ≤ N) (I0 : Nat → Int32) (L0 : Int64) (M0 : Nat → Nat → Int32) (x1 : Int32) (x2 : Int32) (x3 : Int32) (x4 : Int32) (h_x1 : 0 ≤ x1.toInt ∧ x1.toInt ≤ 119) (h_x2 : 0 ≤ x2.toInt ∧ x2.toInt ≤ 3) (k_I0 : KX12 I0 M0) : wq (fX12_costOn N I0 L0 M0 x1 x2 x3 x4) (fun r => (0 ≤ r.toInt ∧ r.toInt ≤ 93) ∧ True) := by
  unfold fX12_costOn
  have l_21 := il_21
  refine wq_b (tt_fX12_at hN I0 L0 M0 x1 (21 : Int32) ⟨by omega, by omega⟩ ⟨by omega, by omega⟩ k_I0) (fun r8_q32174 h_r8_q32174 => ?_)
  obtain ⟨h_r8_q32174_0, h_r8_q32174_1, h_r8_q32174_2, -⟩ := h_r8_q32174
  have l_m1 := il_m1
  refine wq_eq (fun hc_32175 => ?_) (fun hc_32176 => ?_)
  · unfold fX12_costOn_J31
    unfold fX12_costOn_J32
    have b_32177 := i32b x3
    have b_32178 := i32b x4
    have l_0 := il_0
    exact tt_fX12_costOn_L37 hN I0 L0 M0 x1 x2 x3 x4 ⟨by omega, by omega⟩ ⟨by omega, by omega⟩ k_I0 N (0 : Int32) (0 : Int32) ⟨by omega, by omega⟩ ⟨by omega, by omega⟩ (by omega) (by omega)
  · refine wq_b (tt_fX12_at hN I0 L0 M0 x1 (21 : Int32) ⟨by omega, by omega⟩ ⟨by omega, by omega⟩ k_I0) (fun r9b_q32179 h_r9b_q32179 => ?_)
    obtain ⟨h_r9b_q32179_0, h_r9b_q32179_1, h_r9b_q32179_2, -⟩ := h_r9b_q32179
    have b_32180 := i32b x3
    have l_365 := il_365
    have t_32181 := ia_rem2 x3 (365 : Int32) 365 il_365 (by decide)
    refine wq_eq (fun hc_32182 => ?_) (fun hc_32183 => ?_)
    · unfold fX12_costOn_J31
      unfold fX12_costOn_J32
      have b_32184 := i32b x4
      have l_0 := il_0
      exact tt_fX12_costOn_L37 hN I0 L0 M0 x1 x2 x3 x4 ⟨by omega, by omega⟩ ⟨by omega, by omega⟩ k_I0 N (0 : Int32) (0 : Int32) ⟨by omega, by omega⟩ ⟨by omega, by omega⟩ (by omega) (by omega)
    · unfold fX12_costOn_J32
      have b_32185 := i32b x4
      have l_30 := il_30
      have l_0 := il_0
      exact tt_fX12_costOn_L37 hN I0 L0 M0 x1 x2 x3 x4 ⟨by omega, by omega⟩ ⟨by omega, by omega⟩ k_I0 N (30 : Int32) (0 : Int32) ⟨by omega, by omega⟩ ⟨by omega, by omega⟩ (by omega) (by omega)

theorem tu_86 {N : Nat} (g47 : (Nat → Int32) → Int64 → (Nat → Nat → Int32) → Int32 → Option (Int32 × (Nat → Int32) × Int64 × (Nat → Nat → Int32))) (n i : Nat) (hn : n ≤ 8) (Mo : Nat → Int32) : ∀ (fu : Nat) (I : Nat → Int32) (L : Int64) (M : Nat → Nat → Int32) (x y : Int32), KX12 I M → PI9 n (M 36) → (∀ k : Nat, k ≤ i → M 36 k = Mo k) → (i : Int) < x.toInt → x.toInt ≤ 20 → -20 ≤ y.toInt → y.toInt < (n : Int) → y.toInt - x.toInt < (fu : Int) → 0 < fu → wq (fX12_turns_L86 N g47 fu I L M x y) (fun r => r.1.toInt = 1 ∧ r.2.1 = I ∧ KX12 r.2.1 r.2.2.2 ∧ PI9 n (r.2.2.2 36) ∧ ∀ k : Nat, k ≤ i → r.2.2.2 36 k = Mo k) := by
  intro fu
  induction fu with
  | zero => intro I L M x y k p ho h1 h2 h3 h4 h5 h6; exact absurd h6 (by decide)
  | succ fu ih =>
    intro I L M x y k p ho h1 h2 h3 h4 h5 h6
    rw [fX12_turns_L86.eq_2]
    have l_1 := il_1
    have l_m1 := il_m1
    refine wq_le (fun hc => wq_s ⟨il_1, rfl, k, p, ho⟩) (fun hc => ?_)
    refine wq_b (tu_swaps N I L M x y ⟨by omega, by omega⟩ ⟨by omega, by omega⟩ k) (fun r hr => ?_)
    obtain ⟨hr1, hr2, hr3⟩ := hr
    have t1 := ia_add x (1 : Int32) (by omega) (by omega)
    have t2 := ia_add y ((-1) : Int32) (by omega) (by omega)
    refine wq_v (fun v1 e1 => ?_)
    refine wq_v (fun v2 e2 => ?_)
    have t3 := congrArg Int32.toInt e1
    have t4 := congrArg Int32.toInt e2
    have cx := tn_of x (by omega)
    have cy := tn_of y (by omega)
    refine wq_w (ih r.1 r.2.1 r.2.2 v1 v2 hr2 (by rw [hr3]; exact PI9.sw p (by omega) (by omega)) (fun k hk => ?_) (by omega) (by omega) (by omega) (by omega) (by omega) (by omega)) (fun q hq => ?_)
    · rw [hr3, sw_at, if_neg (show ¬ k = y.toNatClampNeg by omega), if_neg (show ¬ k = x.toNatClampNeg by omega)]
      exact ho k hk
    · exact ⟨hq.1, hq.2.1.trans hr1, hq.2.2.1, hq.2.2.2.1, hq.2.2.2.2⟩
theorem tu_47 {N : Nat} (hN : 3000000000 ≤ N) (n : Nat) (i : Int32) (hn : n ≤ 8) (hi : 0 ≤ i.toInt) : ∀ (fu : Nat) (I : Nat → Int32) (L : Int64) (M : Nat → Nat → Int32) (j : Int32), KX12 I M → PI9 n (M 36) → (I 19).toInt = (n : Int) → (M 36 i.toNatClampNeg).toInt ≤ (M 36 (i.toNatClampNeg + 1)).toInt → (i.toInt < j.toInt ∧ j.toInt < (n : Int)) → j.toInt - i.toInt < (fu : Int) → wq (fX12_turns_L47 N i fu I L M j) (fun r => r.1.toInt = 1 ∧ r.2.1 = I ∧ KX12 r.2.1 r.2.2.2 ∧ PI9 n (r.2.2.2 36) ∧ vl (M 36) n < vl (r.2.2.2 36) n) := by
  intro fu
  induction fu with
  | zero => intro I L M j k p h9 hu hj hm; exfalso; omega
  | succ fu ih =>
    intro I L M j k p h9 hu hj hm
    rw [fX12_turns_L47.eq_2]
    have l_1 := il_1
    have l_m1 := il_m1
    have ci := tn_of i (by omega)
    have cj := tn_of j (by omega)
    refine wq_in (n := 20) ⟨by omega, by omega⟩ ?_
    refine wq_in (n := 20) ⟨by omega, by omega⟩ ?_
    refine wq_le (fun hc => ?_) (fun hc => ?_)
    · refine wq_b (tu_swaps N I L M i j ⟨by omega, by omega⟩ ⟨by omega, by omega⟩ k) (fun r hr => ?_)
      obtain ⟨hr1, hr2, hr3⟩ := hr
      have t1 := ia_add i (1 : Int32) (by omega) (by omega)
      have h19 : (r.1 19).toInt = (n : Int) := by rw [hr1]; exact h9
      have t2 := ia_sub (r.1 19) (1 : Int32) (by omega) (by omega)
      refine wq_v (fun v1 e1 => ?_)
      refine wq_v (fun v2 e2 => ?_)
      have t3 := congrArg Int32.toInt e1
      have t4 := congrArg Int32.toInt e2
      have ps : PI9 n (r.2.2 36) := by rw [hr3]; exact PI9.sw p (by omega) (by omega)
      refine wq_w (tu_86 _ n i.toNatClampNeg hn (r.2.2 36) N r.1 r.2.1 r.2.2 v1 v2 hr2 ps (fun _ _ => rfl) (by omega) (by omega) (by omega) (by omega) (by omega) (by omega)) (fun q hq => ?_)
      obtain ⟨q1, q2, q3, q4, q5⟩ := hq
      refine ⟨q1, q2.trans hr1, q3, q4, ?_⟩
      refine vl_lt (M 36) (q.2.2.2 36) i.toNatClampNeg n (by omega) p.1 q4.1 (fun k hk => ?_) ?_
      · rw [q5 k (by omega), hr3, sw_at, if_neg (show ¬ k = j.toNatClampNeg by omega), if_neg (show ¬ k = i.toNatClampNeg by omega)]
      · rw [q5 _ (Nat.le_refl _), hr3, sw_at, if_neg (show ¬ i.toNatClampNeg = j.toNatClampNeg by omega), if_pos rfl]
        have ne : (M 36 i.toNatClampNeg).toInt ≠ (M 36 j.toNatClampNeg).toInt := fun e => by
          have := p.2 _ _ (show i.toNatClampNeg < n by omega) (show j.toNatClampNeg < n by omega) (Int32.toInt_inj.mp e)
          omega
        omega
    · have t2 := ia_add j ((-1) : Int32) (by omega) (by omega)
      refine wq_v (fun v1 e1 => ?_)
      have t3 := congrArg Int32.toInt e1
      have hne : i.toInt + 1 ≠ j.toInt := fun e => by
        have e9 : j.toNatClampNeg = i.toNatClampNeg + 1 := by omega
        rw [e9] at hc
        omega
      exact ih I L M v1 k p h9 hu ⟨by omega, by omega⟩ (by omega)
def TP (n : Nat) (I : Nat → Int32) (M : Nat → Nat → Int32) (r : Int32 × (Nat → Int32) × Int64 × (Nat → Nat → Int32)) : Prop := KX12 r.2.1 r.2.2.2 ∧ r.2.1 = I ∧ (r.1.toInt = 0 ∨ (r.1.toInt = 1 ∧ PI9 n (r.2.2.2 36) ∧ vl (M 36) n < vl (r.2.2.2 36) n))
theorem tu_7 {N : Nat} (hN : 3000000000 ≤ N) (n : Nat) (hn : n ≤ 8) : ∀ (fu : Nat) (I : Nat → Int32) (L : Int64) (M : Nat → Nat → Int32) (y : Int32), KX12 I M → PI9 n (M 36) → (I 19).toInt = (n : Int) → (-2 ≤ y.toInt ∧ y.toInt ≤ (n : Int) - 2) → y.toInt + 2 < (fu : Int) → wq (fX12_turns_L7 N fu I L M y) (TP n I M) := by
  intro fu
  induction fu with
  | zero => intro I L M y k p h9 hy hm; exfalso; omega
  | succ fu ih =>
    intro I L M y k p h9 hy hm
    rw [fX12_turns_L7.eq_2]
    have l_0 := il_0
    have l_1 := il_1
    have l_m1 := il_m1
    refine wq_lt (fun hc => ?_) (fun hc => ?_)
    · unfold fX12_turns_J34
      exact wq_le (fun hc2 => by exfalso; omega) (fun hc2 => wq_s ⟨k, rfl, Or.inl il_0⟩)
    · have t1 := ia_add y (1 : Int32) (by omega) (by omega)
      have c1 := tn_of y (by omega)
      have c2 := tn_of (y + (1 : Int32)) (by omega)
      refine wq_in (n := 20) ⟨by omega, by omega⟩ ?_
      refine wq_in (n := 20) ⟨by omega, by omega⟩ ?_
      have e9 : (y + (1 : Int32)).toNatClampNeg = y.toNatClampNeg + 1 := by omega
      refine wq_le (fun hc2 => ?_) (fun hc2 => ?_)
      · unfold fX12_turns_J34
        refine wq_le (fun hc3 => ?_) (fun hc3 => by exfalso; omega)
        have t2 := ia_sub (I 19) (1 : Int32) (by omega) (by omega)
        refine wq_v (fun v1 e1 => ?_)
        have t3 := congrArg Int32.toInt e1
        rw [e9] at hc2
        exact wq_w (tu_47 hN n y hn (by omega) N I L M v1 k p h9 hc2 ⟨by omega, by omega⟩ (by omega)) (fun q hq => ⟨hq.2.2.1, hq.2.1, Or.inr ⟨hq.1, hq.2.2.2.1, hq.2.2.2.2⟩⟩)
      · have t2 := ia_add y ((-1) : Int32) (by omega) (by omega)
        refine wq_v (fun v1 e1 => ?_)
        have t3 := congrArg Int32.toInt e1
        exact ih I L M v1 k p h9 ⟨by omega, by omega⟩ (by omega)
theorem tu_turns {N : Nat} (hN : 3000000000 ≤ N) (n : Nat) (hn : n ≤ 8) (I : Nat → Int32) (L : Int64) (M : Nat → Nat → Int32) (k : KX12 I M) (p : PI9 n (M 36)) (h9 : (I 19).toInt = (n : Int)) : wq (fX12_turns N I L M) (TP n I M) := by
  unfold fX12_turns
  have l_2 := il_2
  have t2 := ia_sub (I 19) (2 : Int32) (by omega) (by omega)
  refine wq_v (fun v1 e1 => ?_)
  have t3 := congrArg Int32.toInt e1
  exact tu_7 hN n hn N I L M v1 k p h9 ⟨by omega, by omega⟩ (by omega)
theorem tu_97_133 {N : Nat} (hN : 3000000000 ≤ N) (x2 x3 r2 : Int32) (g8 : (Nat → Int32) → Int64 → (Nat → Nat → Int32) → Int32 → Option (Int32 × (Nat → Int32) × Int64 × (Nat → Nat → Int32))) (n : Nat) (hn : n ≤ 8) : ∀ (fu : Nat) (I : Nat → Int32) (L : Int64) (M : Nat → Nat → Int32) (y5 y6 : Int32), KX12 I M → 0 < fu → (y6.toInt = 0 ∨ (y6.toInt = 1 ∧ PI9 n (M 36) ∧ (I 19).toInt = (n : Int) ∧ 16777217 - vl (M 36) n < (fu : Int))) → wq (fX12_asks_133_L97 N x2 x3 r2 g8 fu I L M y5 y6) (fun r => KX12 r.2.1 r.2.2.2 ∧ True) := by
  intro fu
  induction fu with
  | zero => intro I L M y5 y6 k h0 h; exact absurd h0 (by decide)
  | succ fu ih =>
    intro I L M y5 y6 k h0 h
    rw [fX12_asks_133_L97.eq_2]
    have l_0 := il_0
    refine wq_eq (fun hc => wq_s ⟨k, trivial⟩) (fun hc => ?_)
    obtain ⟨h1, p, h9, hm⟩ : y6.toInt = 1 ∧ PI9 n (M 36) ∧ (I 19).toInt = (n : Int) ∧ 16777217 - vl (M 36) n < ((fu + 1 : Nat) : Int) := by
      rcases h with q | q
      · exfalso; omega
      · exact q
    have vb := vl_b (M 36) n p.1
    have p8 := p8_le n hn
    have nx : ∀ (w v : Int32) (r : Int32 × (Nat → Int32) × Int64 × (Nat → Nat → Int32)), TP n I M r → v = r.1 → wq (fX12_asks_133_L97 N x2 x3 r2 g8 fu r.2.1 r.2.2.1 r.2.2.2 w v) (fun r => KX12 r.2.1 r.2.2.2 ∧ True) := by
      intro w v r hr e
      obtain ⟨kr, er, hr⟩ := hr
      refine ih r.2.1 r.2.2.1 r.2.2.2 w v kr (by omega) ?_
      rw [e]
      rcases hr with q | ⟨q1, q2, q3⟩
      · exact Or.inl q
      · exact Or.inr ⟨q1, q2, by rw [er]; exact h9, by omega⟩
    refine wq_b (tt_fX12_hitsBy hN I L M x3 k) (fun r3 _ => ?_)
    refine wq_i (fun _ => ?_) (fun _ => ?_)
    · exact wq_b (tu_turns hN n hn I L M k p h9) (fun r hr => wq_v (fun v e => nx _ v r hr e))
    · exact wq_v (fun w _ => wq_b (tu_turns hN n hn I L M k p h9) (fun r hr => wq_v (fun v e => nx w v r hr e)))
theorem tu_8_133 {N : Nat} (hN : 3000000000 ≤ N) (x2 x3 : Int32) : ∀ (fu : Nat) (I : Nat → Int32) (L : Int64) (M : Nat → Nat → Int32) (y : Int32), KX12 I M → (0 ≤ y.toInt ∧ y.toInt ≤ 20) → (I 19).toInt ≤ y.toInt → (∀ k : Nat, (k : Int) < (I 19).toInt → (M 36 k).toInt = (k : Int)) → 20 - y.toInt < (fu : Int) → wq (fX12_asks_133_L8 N x2 x3 fu I L M y) (fun r => KX12 r.2.1 r.2.2.2 ∧ True) := by
  intro fu
  induction fu with
  | zero => intro I L M y k hy h9 hk hm; exfalso; omega
  | succ fu ih =>
    intro I L M y k hy h9 hk hm
    rw [fX12_asks_133_L8.eq_2]
    have l_20 := il_20
    have l_8 := il_8
    have l_1 := il_1
    have i19 := k.i19
    refine wq_le (fun hc => ?_) (fun hc => ?_)
    · refine wq_b (tt_fX12_hitsBy hN I L M x3 k) (fun r2 _ => ?_)
      refine wq_i (fun _ => wq_s ⟨k, trivial⟩) (fun _ => ?_)
      refine wq_le (fun hc2 => ?_) (fun hc2 => wq_s ⟨k, trivial⟩)
      have p : PI9 (I 19).toInt.toNat (M 36) := by
        refine ⟨fun j hj => ?_, fun a b ha hb e => ?_⟩
        · have := hk j (by omega)
          omega
        · have h1 := hk a (by omega)
          have h2 := hk b (by omega)
          rw [e] at h1
          omega
      have vb := vl_b (M 36) (I 19).toInt.toNat p.1
      exact tu_97_133 hN x2 x3 r2 _ (I 19).toInt.toNat (by omega) N I L M (0 : Int32) (1 : Int32) k (by omega) (Or.inr ⟨il_1, p, by omega, by omega⟩)
    · have t5 := ia_add y (1 : Int32) (by omega) (by omega)
      refine wq_in (n := 20) ⟨by omega, by omega⟩ ?_
      refine wq_i (fun _ => wq_v (fun v e => ?_)) (fun _ => ?_)
      · have t6 := congrArg Int32.toInt e
        exact ih I L M v k ⟨by omega, by omega⟩ (by omega) hk (by omega)
      · refine wq_in (n := 20) ⟨by omega, by omega⟩ ?_
        refine wq_v (fun M9 e9 => ?_)
        refine wq_in (n := 20) ⟨by omega, by omega⟩ ?_
        refine wq_v (fun M10 e10 => ?_)
        have t7 := ia_add (I 19) (1 : Int32) (by omega) (by omega)
        refine wq_v (fun I11 e11 => ?_)
        refine wq_v (fun v e => ?_)
        have t6 := congrArg Int32.toInt e
        have k9 : KX12 I M9 := by rw [e9]; exact KX12.sm35 k ⟨by omega, by omega⟩
        have k10 : KX12 I M10 := by rw [e10]; exact KX12.sm36 k9 ⟨by omega, by omega⟩
        have k11 : KX12 I11 M10 := by rw [e11]; exact KX12.si19 k10 ⟨by omega, by omega⟩
        have e19 : (I11 19).toInt = (I 19).toInt + 1 := by
          have q : I11 19 = I 19 + (1 : Int32) := by rw [e11]; rfl
          rw [q]; exact t7.trans (by omega)
        have e36 : M10 36 = upd (M 36) (I 19).toNatClampNeg (I 19) := by rw [e10, e9]; rfl
        have c := tn_of (I 19) (by omega)
        refine ih I11 L M10 v k11 ⟨by omega, by omega⟩ (by omega) (fun j hj => ?_) (by omega)
        rw [e36]
        unfold upd
        by_cases q : j = (I 19).toNatClampNeg
        · rw [if_pos q]; omega
        · rw [if_neg q]; exact hk j (by omega)
theorem tt_fX12_asks_133 {N : Nat} (hN : 3000000000 ≤ N) (I0 : Nat → Int32) (L0 : Int64) (M0 : Nat → Nat → Int32) (x2 : Int32) (x3 : Int32) (k_I0 : KX12 I0 M0) : wq (fX12_asks_133 N I0 L0 M0 x2 x3) (fun r => KX12 r.2.1 r.2.2.2 ∧ True) := by
  unfold fX12_asks_133
  refine wq_v (fun I1 e1 => ?_)
  have l_0 := il_0
  have k1 : KX12 I1 M0 := by rw [e1]; exact KX12.si19 k_I0 ⟨by decide, by decide⟩
  have q : (I1 19).toInt = 0 := by rw [e1]; exact il_0
  exact tu_8_133 hN x2 x3 N I1 L0 M0 (0 : Int32) k1 ⟨by omega, by omega⟩ (by omega) (fun j hj => by exfalso; omega) (by omega)
set_option maxHeartbeats 4000000 in
theorem tt_fX12_hits {N : Nat} (hN : 3000000000 ≤ N) (I0 : Nat → Int32) (L0 : Int64) (M0 : Nat → Nat → Int32) (x1 : Int32) (x2 : Int32) (k_I0 : KX12 I0 M0) : wq (fX12_hits N I0 L0 M0 x1 x2) (fun r => KX12 r.2.1 r.2.2.2 ∧ True) := by
  unfold fX12_hits
  refine wq_v (fun I0_4_q61294 h_I0_4_q61294 => ?_)
  have k_I0_4_q61294 : KX12 I0_4_q61294 M0 := by rw [h_I0_4_q61294]; exact KX12.si0 k_I0
  have b_61295 := i32b x1
  have l_0 := il_0
  refine wq_eq (fun hc_61296 => ?_) (fun hc_61297 => ?_)
  · unfold fX12_hits_J15
    have b_61298 := i32b x2
    have l_120 := il_120
    refine wq_b (tt_fX12_within hN x2 (0 : Int32) (120 : Int32)) (fun r3_q61299 h_r3_q61299 => ?_)
    obtain ⟨h_r3_q61299_0, h_r3_q61299_1, -⟩ := h_r3_q61299
    refine wq_eq (fun hc_61300 => ?_) (fun hc_61301 => ?_)
    · unfold fX12_hits_J29
      unfold fX12_hits_J30
      have l_1 := il_1
      refine wq_b (tt_fX12_right hN I0_4_q61294 L0 M0 (0 : Int32) (1 : Int32) ⟨by omega, by omega⟩ k_I0_4_q61294) (fun r1_q61302 h_r1_q61302 => ?_)
      obtain ⟨h_r1_q61302_0, h_r1_q61302_1, h_r1_q61302_2, h_r1_q61302_3, -⟩ := h_r1_q61302
      have t_61303 := KX12.i1 h_r1_q61302_3
      have t_61304 := KX12.i1 k_I0
      have t_61305 : (I0_4_q61294 1).toInt = (I0 1).toInt := by rw [h_I0_4_q61294]; rfl
      refine wq_eq (fun hc_61306 => ?_) (fun hc_61307 => ?_)
      · exact wq_s ⟨h_r1_q61302_3, trivial⟩
      · refine wq_b (tt_fX12_asks_133 hN r1_q61302.2.1 r1_q61302.2.2.1 r1_q61302.2.2.2 x1 x2 h_r1_q61302_3) (fun r2_q61308 h_r2_q61308 => ?_)
        obtain ⟨h_r2_q61308_0, -⟩ := h_r2_q61308
        have b_61309 := i32b r2_q61308.1
        exact wq_s ⟨h_r2_q61308_0, trivial⟩
    · unfold fX12_hits_J30
      have l_1 := il_1
      refine wq_b (tt_fX12_right hN I0_4_q61294 L0 M0 (1 : Int32) (1 : Int32) ⟨by omega, by omega⟩ k_I0_4_q61294) (fun r1_q61310 h_r1_q61310 => ?_)
      obtain ⟨h_r1_q61310_0, h_r1_q61310_1, h_r1_q61310_2, h_r1_q61310_3, -⟩ := h_r1_q61310
      have t_61311 := KX12.i1 h_r1_q61310_3
      have t_61312 := KX12.i1 k_I0
      have t_61313 : (I0_4_q61294 1).toInt = (I0 1).toInt := by rw [h_I0_4_q61294]; rfl
      refine wq_eq (fun hc_61314 => ?_) (fun hc_61315 => ?_)
      · exact wq_s ⟨h_r1_q61310_3, trivial⟩
      · refine wq_b (tt_fX12_asks_133 hN r1_q61310.2.1 r1_q61310.2.2.1 r1_q61310.2.2.2 x1 x2 h_r1_q61310_3) (fun r2_q61316 h_r2_q61316 => ?_)
        obtain ⟨h_r2_q61316_0, -⟩ := h_r2_q61316
        have b_61317 := i32b r2_q61316.1
        exact wq_s ⟨h_r2_q61316_0, trivial⟩
  · have l_1 := il_1
    refine wq_eq (fun hc_61318 => ?_) (fun hc_61319 => ?_)
    · unfold fX12_hits_J15
      have b_61320 := i32b x2
      have l_120 := il_120
      refine wq_b (tt_fX12_within hN x2 (0 : Int32) (120 : Int32)) (fun r3_q61321 h_r3_q61321 => ?_)
      obtain ⟨h_r3_q61321_0, h_r3_q61321_1, -⟩ := h_r3_q61321
      refine wq_eq (fun hc_61322 => ?_) (fun hc_61323 => ?_)
      · unfold fX12_hits_J29
        unfold fX12_hits_J30
        refine wq_b (tt_fX12_right hN I0_4_q61294 L0 M0 (0 : Int32) (1 : Int32) ⟨by omega, by omega⟩ k_I0_4_q61294) (fun r1_q61324 h_r1_q61324 => ?_)
        obtain ⟨h_r1_q61324_0, h_r1_q61324_1, h_r1_q61324_2, h_r1_q61324_3, -⟩ := h_r1_q61324
        have t_61325 := KX12.i1 h_r1_q61324_3
        have t_61326 := KX12.i1 k_I0
        have t_61327 : (I0_4_q61294 1).toInt = (I0 1).toInt := by rw [h_I0_4_q61294]; rfl
        refine wq_eq (fun hc_61328 => ?_) (fun hc_61329 => ?_)
        · exact wq_s ⟨h_r1_q61324_3, trivial⟩
        · refine wq_b (tt_fX12_asks_133 hN r1_q61324.2.1 r1_q61324.2.2.1 r1_q61324.2.2.2 x1 x2 h_r1_q61324_3) (fun r2_q61330 h_r2_q61330 => ?_)
          obtain ⟨h_r2_q61330_0, -⟩ := h_r2_q61330
          have b_61331 := i32b r2_q61330.1
          exact wq_s ⟨h_r2_q61330_0, trivial⟩
      · unfold fX12_hits_J30
        refine wq_b (tt_fX12_right hN I0_4_q61294 L0 M0 (1 : Int32) (1 : Int32) ⟨by omega, by omega⟩ k_I0_4_q61294) (fun r1_q61332 h_r1_q61332 => ?_)
        obtain ⟨h_r1_q61332_0, h_r1_q61332_1, h_r1_q61332_2, h_r1_q61332_3, -⟩ := h_r1_q61332
        have t_61333 := KX12.i1 h_r1_q61332_3
        have t_61334 := KX12.i1 k_I0
        have t_61335 : (I0_4_q61294 1).toInt = (I0 1).toInt := by rw [h_I0_4_q61294]; rfl
        refine wq_eq (fun hc_61336 => ?_) (fun hc_61337 => ?_)
        · exact wq_s ⟨h_r1_q61332_3, trivial⟩
        · refine wq_b (tt_fX12_asks_133 hN r1_q61332.2.1 r1_q61332.2.2.1 r1_q61332.2.2.2 x1 x2 h_r1_q61332_3) (fun r2_q61338 h_r2_q61338 => ?_)
          obtain ⟨h_r2_q61338_0, -⟩ := h_r2_q61338
          have b_61339 := i32b r2_q61338.1
          exact wq_s ⟨h_r2_q61338_0, trivial⟩
    · unfold fX12_hits_J29
      unfold fX12_hits_J30
      refine wq_b (tt_fX12_right hN I0_4_q61294 L0 M0 (0 : Int32) (1 : Int32) ⟨by omega, by omega⟩ k_I0_4_q61294) (fun r1_q61340 h_r1_q61340 => ?_)
      obtain ⟨h_r1_q61340_0, h_r1_q61340_1, h_r1_q61340_2, h_r1_q61340_3, -⟩ := h_r1_q61340
      have t_61341 := KX12.i1 h_r1_q61340_3
      have t_61342 := KX12.i1 k_I0
      have t_61343 : (I0_4_q61294 1).toInt = (I0 1).toInt := by rw [h_I0_4_q61294]; rfl
      refine wq_eq (fun hc_61344 => ?_) (fun hc_61345 => ?_)
      · exact wq_s ⟨h_r1_q61340_3, trivial⟩
      · have b_61346 := i32b x2
        refine wq_b (tt_fX12_asks_133 hN r1_q61340.2.1 r1_q61340.2.2.1 r1_q61340.2.2.2 x1 x2 h_r1_q61340_3) (fun r2_q61347 h_r2_q61347 => ?_)
        obtain ⟨h_r2_q61347_0, -⟩ := h_r2_q61347
        have b_61348 := i32b r2_q61347.1
        exact wq_s ⟨h_r2_q61347_0, trivial⟩
theorem tu_97_135 {N : Nat} (hN : 3000000000 ≤ N) (x2 x3 r2 : Int32) (g8 : (Nat → Int32) → Int64 → (Nat → Nat → Int32) → Int32 → Option (Int32 × (Nat → Int32) × Int64 × (Nat → Nat → Int32))) (n : Nat) (hn : n ≤ 8) : ∀ (fu : Nat) (I : Nat → Int32) (L : Int64) (M : Nat → Nat → Int32) (y5 y6 : Int32), KX12 I M → 0 < fu → (y6.toInt = 0 ∨ (y6.toInt = 1 ∧ PI9 n (M 36) ∧ (I 19).toInt = (n : Int) ∧ 16777217 - vl (M 36) n < (fu : Int))) → wq (fX12_asks_135_L97 N x2 x3 r2 g8 fu I L M y5 y6) (fun r => KX12 r.2.1 r.2.2.2 ∧ True) := by
  intro fu
  induction fu with
  | zero => intro I L M y5 y6 k h0 h; exact absurd h0 (by decide)
  | succ fu ih =>
    intro I L M y5 y6 k h0 h
    rw [fX12_asks_135_L97.eq_2]
    have l_0 := il_0
    refine wq_eq (fun hc => wq_s ⟨k, trivial⟩) (fun hc => ?_)
    obtain ⟨h1, p, h9, hm⟩ : y6.toInt = 1 ∧ PI9 n (M 36) ∧ (I 19).toInt = (n : Int) ∧ 16777217 - vl (M 36) n < ((fu + 1 : Nat) : Int) := by
      rcases h with q | q
      · exfalso; omega
      · exact q
    have vb := vl_b (M 36) n p.1
    have p8 := p8_le n hn
    have nx : ∀ (w v : Int32) (r : Int32 × (Nat → Int32) × Int64 × (Nat → Nat → Int32)), TP n I M r → v = r.1 → wq (fX12_asks_135_L97 N x2 x3 r2 g8 fu r.2.1 r.2.2.1 r.2.2.2 w v) (fun r => KX12 r.2.1 r.2.2.2 ∧ True) := by
      intro w v r hr e
      obtain ⟨kr, er, hr⟩ := hr
      refine ih r.2.1 r.2.2.1 r.2.2.2 w v kr (by omega) ?_
      rw [e]
      rcases hr with q | ⟨q1, q2, q3⟩
      · exact Or.inl q
      · exact Or.inr ⟨q1, q2, by rw [er]; exact h9, by omega⟩
    refine wq_b (tt_fX12_hitsBy hN I L M x3 k) (fun r3 _ => ?_)
    refine wq_i (fun _ => ?_) (fun _ => ?_)
    · exact wq_b (tu_turns hN n hn I L M k p h9) (fun r hr => wq_v (fun v e => nx _ v r hr e))
    · exact wq_v (fun w _ => wq_b (tu_turns hN n hn I L M k p h9) (fun r hr => wq_v (fun v e => nx w v r hr e)))
theorem tu_8_135 {N : Nat} (hN : 3000000000 ≤ N) (x2 x3 : Int32) : ∀ (fu : Nat) (I : Nat → Int32) (L : Int64) (M : Nat → Nat → Int32) (y : Int32), KX12 I M → (0 ≤ y.toInt ∧ y.toInt ≤ 20) → (I 19).toInt ≤ y.toInt → (∀ k : Nat, (k : Int) < (I 19).toInt → (M 36 k).toInt = (k : Int)) → 20 - y.toInt < (fu : Int) → wq (fX12_asks_135_L8 N x2 x3 fu I L M y) (fun r => KX12 r.2.1 r.2.2.2 ∧ True) := by
  intro fu
  induction fu with
  | zero => intro I L M y k hy h9 hk hm; exfalso; omega
  | succ fu ih =>
    intro I L M y k hy h9 hk hm
    rw [fX12_asks_135_L8.eq_2]
    have l_20 := il_20
    have l_8 := il_8
    have l_1 := il_1
    have i19 := k.i19
    refine wq_le (fun hc => ?_) (fun hc => ?_)
    · refine wq_b (tt_fX12_hitsBy hN I L M x3 k) (fun r2 _ => ?_)
      refine wq_i (fun _ => wq_s ⟨k, trivial⟩) (fun _ => ?_)
      refine wq_le (fun hc2 => ?_) (fun hc2 => wq_s ⟨k, trivial⟩)
      have p : PI9 (I 19).toInt.toNat (M 36) := by
        refine ⟨fun j hj => ?_, fun a b ha hb e => ?_⟩
        · have := hk j (by omega)
          omega
        · have h1 := hk a (by omega)
          have h2 := hk b (by omega)
          rw [e] at h1
          omega
      have vb := vl_b (M 36) (I 19).toInt.toNat p.1
      exact tu_97_135 hN x2 x3 r2 _ (I 19).toInt.toNat (by omega) N I L M (0 : Int32) (1 : Int32) k (by omega) (Or.inr ⟨il_1, p, by omega, by omega⟩)
    · have t5 := ia_add y (1 : Int32) (by omega) (by omega)
      refine wq_in (n := 20) ⟨by omega, by omega⟩ ?_
      refine wq_i (fun _ => wq_v (fun v e => ?_)) (fun _ => ?_)
      · have t6 := congrArg Int32.toInt e
        exact ih I L M v k ⟨by omega, by omega⟩ (by omega) hk (by omega)
      · refine wq_in (n := 20) ⟨by omega, by omega⟩ ?_
        refine wq_v (fun M9 e9 => ?_)
        refine wq_in (n := 20) ⟨by omega, by omega⟩ ?_
        refine wq_v (fun M10 e10 => ?_)
        have t7 := ia_add (I 19) (1 : Int32) (by omega) (by omega)
        refine wq_v (fun I11 e11 => ?_)
        refine wq_v (fun v e => ?_)
        have t6 := congrArg Int32.toInt e
        have k9 : KX12 I M9 := by rw [e9]; exact KX12.sm35 k ⟨by omega, by omega⟩
        have k10 : KX12 I M10 := by rw [e10]; exact KX12.sm36 k9 ⟨by omega, by omega⟩
        have k11 : KX12 I11 M10 := by rw [e11]; exact KX12.si19 k10 ⟨by omega, by omega⟩
        have e19 : (I11 19).toInt = (I 19).toInt + 1 := by
          have q : I11 19 = I 19 + (1 : Int32) := by rw [e11]; rfl
          rw [q]; exact t7.trans (by omega)
        have e36 : M10 36 = upd (M 36) (I 19).toNatClampNeg (I 19) := by rw [e10, e9]; rfl
        have c := tn_of (I 19) (by omega)
        refine ih I11 L M10 v k11 ⟨by omega, by omega⟩ (by omega) (fun j hj => ?_) (by omega)
        rw [e36]
        unfold upd
        by_cases q : j = (I 19).toNatClampNeg
        · rw [if_pos q]; omega
        · rw [if_neg q]; exact hk j (by omega)
theorem tt_fX12_asks_135 {N : Nat} (hN : 3000000000 ≤ N) (I0 : Nat → Int32) (L0 : Int64) (M0 : Nat → Nat → Int32) (x2 : Int32) (x3 : Int32) (k_I0 : KX12 I0 M0) : wq (fX12_asks_135 N I0 L0 M0 x2 x3) (fun r => KX12 r.2.1 r.2.2.2 ∧ True) := by
  unfold fX12_asks_135
  refine wq_v (fun I1 e1 => ?_)
  have l_0 := il_0
  have k1 : KX12 I1 M0 := by rw [e1]; exact KX12.si19 k_I0 ⟨by decide, by decide⟩
  have q : (I1 19).toInt = 0 := by rw [e1]; exact il_0
  exact tu_8_135 hN x2 x3 N I1 L0 M0 (0 : Int32) k1 ⟨by omega, by omega⟩ (by omega) (fun j hj => by exfalso; omega) (by omega)
set_option maxHeartbeats 4000000 in
theorem tt_fX12_fates {N : Nat} (hN : 3000000000 ≤ N) (I0 : Nat → Int32) (L0 : Int64) (M0 : Nat → Nat → Int32) (x1 : Int32) (k_I0 : KX12 I0 M0) : wq (fX12_fates N I0 L0 M0 x1) (fun r => KX12 r.2.1 r.2.2.2 ∧ True) := by
  unfold fX12_fates
  refine wq_v (fun I0_3_q61529 h_I0_3_q61529 => ?_)
  have k_I0_3_q61529 : KX12 I0_3_q61529 M0 := by rw [h_I0_3_q61529]; exact KX12.si0 k_I0
  have b_61530 := i32b x1
  have l_0 := il_0
  refine wq_eq (fun hc_61531 => ?_) (fun hc_61532 => ?_)
  · unfold fX12_fates_J15
    unfold fX12_fates_J20
    have l_1 := il_1
    refine wq_b (tt_fX12_right hN I0_3_q61529 L0 M0 (1 : Int32) (1 : Int32) ⟨by omega, by omega⟩ k_I0_3_q61529) (fun r1_q61533 h_r1_q61533 => ?_)
    obtain ⟨h_r1_q61533_0, h_r1_q61533_1, h_r1_q61533_2, h_r1_q61533_3, -⟩ := h_r1_q61533
    have t_61534 := KX12.i1 h_r1_q61533_3
    have t_61535 := KX12.i1 k_I0
    have t_61536 : (I0_3_q61529 1).toInt = (I0 1).toInt := by rw [h_I0_3_q61529]; rfl
    refine wq_eq (fun hc_61537 => ?_) (fun hc_61538 => ?_)
    · exact wq_s ⟨h_r1_q61533_3, trivial⟩
    · have l_m1 := il_m1
      refine wq_b (tt_fX12_asks_135 hN r1_q61533.2.1 r1_q61533.2.2.1 r1_q61533.2.2.2 x1 ((-1) : Int32) h_r1_q61533_3) (fun r2_q61539 h_r2_q61539 => ?_)
      obtain ⟨h_r2_q61539_0, -⟩ := h_r2_q61539
      have b_61540 := i32b r2_q61539.1
      exact wq_s ⟨h_r2_q61539_0, trivial⟩
  · have l_1 := il_1
    refine wq_eq (fun hc_61541 => ?_) (fun hc_61542 => ?_)
    · unfold fX12_fates_J15
      unfold fX12_fates_J20
      refine wq_b (tt_fX12_right hN I0_3_q61529 L0 M0 (1 : Int32) (1 : Int32) ⟨by omega, by omega⟩ k_I0_3_q61529) (fun r1_q61543 h_r1_q61543 => ?_)
      obtain ⟨h_r1_q61543_0, h_r1_q61543_1, h_r1_q61543_2, h_r1_q61543_3, -⟩ := h_r1_q61543
      have t_61544 := KX12.i1 h_r1_q61543_3
      have t_61545 := KX12.i1 k_I0
      have t_61546 : (I0_3_q61529 1).toInt = (I0 1).toInt := by rw [h_I0_3_q61529]; rfl
      refine wq_eq (fun hc_61547 => ?_) (fun hc_61548 => ?_)
      · exact wq_s ⟨h_r1_q61543_3, trivial⟩
      · have l_m1 := il_m1
        refine wq_b (tt_fX12_asks_135 hN r1_q61543.2.1 r1_q61543.2.2.1 r1_q61543.2.2.2 x1 ((-1) : Int32) h_r1_q61543_3) (fun r2_q61549 h_r2_q61549 => ?_)
        obtain ⟨h_r2_q61549_0, -⟩ := h_r2_q61549
        have b_61550 := i32b r2_q61549.1
        exact wq_s ⟨h_r2_q61549_0, trivial⟩
    · unfold fX12_fates_J20
      refine wq_b (tt_fX12_right hN I0_3_q61529 L0 M0 (0 : Int32) (1 : Int32) ⟨by omega, by omega⟩ k_I0_3_q61529) (fun r1_q61551 h_r1_q61551 => ?_)
      obtain ⟨h_r1_q61551_0, h_r1_q61551_1, h_r1_q61551_2, h_r1_q61551_3, -⟩ := h_r1_q61551
      have t_61552 := KX12.i1 h_r1_q61551_3
      have t_61553 := KX12.i1 k_I0
      have t_61554 : (I0_3_q61529 1).toInt = (I0 1).toInt := by rw [h_I0_3_q61529]; rfl
      refine wq_eq (fun hc_61555 => ?_) (fun hc_61556 => ?_)
      · exact wq_s ⟨h_r1_q61551_3, trivial⟩
      · have l_m1 := il_m1
        refine wq_b (tt_fX12_asks_135 hN r1_q61551.2.1 r1_q61551.2.2.1 r1_q61551.2.2.2 x1 ((-1) : Int32) h_r1_q61551_3) (fun r2_q61557 h_r2_q61557 => ?_)
        obtain ⟨h_r2_q61557_0, -⟩ := h_r2_q61557
        have b_61558 := i32b r2_q61557.1
        exact wq_s ⟨h_r2_q61557_0, trivial⟩

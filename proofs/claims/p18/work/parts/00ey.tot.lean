theorem tu_turns {N : Nat} (hN : 3000000000 ≤ N) (n : Nat) (hn : n ≤ 8) (I : Nat → Int32) (L : Int64) (M : Nat → Nat → Int32) (k : KX12 I M) (p : PI9 n (M 36)) (h9 : (I 19).toInt = (n : Int)) : wq (fX12_turns N I L M) (TP n I M) := by
  unfold fX12_turns
  have l_2 := il_2
  have t2 := ia_sub (I 19) (2 : Int32) (by omega) (by omega)
  refine wq_v (fun v1 e1 => ?_)
  have t3 := congrArg Int32.toInt e1
  exact tu_7 hN n hn N I L M v1 k p h9 ⟨by omega, by omega⟩ (by omega)
theorem tu_97_133 {N : Nat} (hN : 3000000000 ≤ N) (x2 x3 r2 : Int32) (g8 : (Nat → Int32) → Int64 → (Nat → Nat → Int32) → Int32 → Option (Int32 × (Nat → Int32) × Int64 × (Nat → Nat → Int32))) (n : Nat) (hn : n ≤ 8) : ∀ (fu : Nat) (I : Nat → Int32) (L : Int64) (M : Nat → Nat → Int32) (y5 y6 : Int32), KX12 I M → 0 < fu → (y6.toInt = 0 ∨ (y6.toInt = 1 ∧ PI9 n (M 36) ∧ (I 19).toInt = (n : Int) ∧ 16777217 - vl (M 36) n < (fu : Int))) → wq (fX12_asks_133_L97 N x2 x3 r2 g8 fu I L M y5 y6) (fun r => KX12 r.2.1 r.2.2.2 ∧ True) := by
  intro fu
  induction fu with
  | zero => intro I L M y5 y6 k h0 h; exact absurd h0 (by decide)
  | succ fu ih =>
    intro I L M y5 y6 k h0 h
    rw [fX12_asks_133_L97.eq_2]
    have l_0 := il_0
    refine wq_eq (fun hc => wq_s ⟨k, trivial⟩) (fun hc => ?_)
    obtain ⟨h1, p, h9, hm⟩ : y6.toInt = 1 ∧ PI9 n (M 36) ∧ (I 19).toInt = (n : Int) ∧ 16777217 - vl (M 36) n < ((fu + 1 : Nat) : Int) := by
      rcases h with q | q
      · exfalso; omega
      · exact q
    have vb := vl_b (M 36) n p.1
    have p8 := p8_le n hn
    have nx : ∀ (w v : Int32) (r : Int32 × (Nat → Int32) × Int64 × (Nat → Nat → Int32)), TP n I M r → v = r.1 → wq (fX12_asks_133_L97 N x2 x3 r2 g8 fu r.2.1 r.2.2.1 r.2.2.2 w v) (fun r => KX12 r.2.1 r.2.2.2 ∧ True) := by
      intro w v r hr e
      obtain ⟨kr, er, hr⟩ := hr
      refine ih r.2.1 r.2.2.1 r.2.2.2 w v kr (by omega) ?_
      rw [e]
      rcases hr with q | ⟨q1, q2, q3⟩
      · exact Or.inl q
      · exact Or.inr ⟨q1, q2, by rw [er]; exact h9, by omega⟩
    refine wq_b (tt_fX12_hitsBy hN I L M x3 k) (fun r3 _ => ?_)
    refine wq_i (fun _ => ?_) (fun _ => ?_)
    · exact wq_b (tu_turns hN n hn I L M k p h9) (fun r hr => wq_v (fun v e => nx _ v r hr e))
    · exact wq_v (fun w _ => wq_b (tu_turns hN n hn I L M k p h9) (fun r hr => wq_v (fun v e => nx w v r hr e)))
theorem tu_8_133 {N : Nat} (hN : 3000000000 ≤ N) (x2 x3 : Int32) : ∀ (fu : Nat) (I : Nat → Int32) (L : Int64) (M : Nat → Nat → Int32) (y : Int32), KX12 I M → (0 ≤ y.toInt ∧ y.toInt ≤ 20) → (I 19).toInt ≤ y.toInt → (∀ k : Nat, (k : Int) < (I 19).toInt → (M 36 k).toInt = (k : Int)) → 20 - y.toInt < (fu : Int) → wq (fX12_asks_133_L8 N x2 x3 fu I L M y) (fun r => KX12 r.2.1 r.2.2.2 ∧ True) := by
  intro fu
  induction fu with
  | zero => intro I L M y k hy h9 hk hm; exfalso; omega
  | succ fu ih =>
    intro I L M y k hy h9 hk hm
    rw [fX12_asks_133_L8.eq_2]
    have l_20 := il_20
    have l_8 := il_8
    have l_1 := il_1
    have i19 := k.i19
    refine wq_le (fun hc => ?_) (fun hc => ?_)
    · refine wq_b (tt_fX12_hitsBy hN I L M x3 k) (fun r2 _ => ?_)
      refine wq_i (fun _ => wq_s ⟨k, trivial⟩) (fun _ => ?_)
      refine wq_le (fun hc2 => ?_) (fun hc2 => wq_s ⟨k, trivial⟩)
      have p : PI9 (I 19).toInt.toNat (M 36) := by
        refine ⟨fun j hj => ?_, fun a b ha hb e => ?_⟩
        · have := hk j (by omega)
          omega
        · have h1 := hk a (by omega)
          have h2 := hk b (by omega)
          rw [e] at h1
          omega
      have vb := vl_b (M 36) (I 19).toInt.toNat p.1
      exact tu_97_133 hN x2 x3 r2 _ (I 19).toInt.toNat (by omega) N I L M (0 : Int32) (1 : Int32) k (by omega) (Or.inr ⟨il_1, p, by omega, by omega⟩)
    · have t5 := ia_add y (1 : Int32) (by omega) (by omega)
      refine wq_in (n := 20) ⟨by omega, by omega⟩ ?_
      refine wq_i (fun _ => wq_v (fun v e => ?_)) (fun _ => ?_)
      · have t6 := congrArg Int32.toInt e
        exact ih I L M v k ⟨by omega, by omega⟩ (by omega) hk (by omega)
      · refine wq_in (n := 20) ⟨by omega, by omega⟩ ?_
        refine wq_v (fun M9 e9 => ?_)
        refine wq_in (n := 20) ⟨by omega, by omega⟩ ?_
        refine wq_v (fun M10 e10 => ?_)
        have t7 := ia_add (I 19) (1 : Int32) (by omega) (by omega)
        refine wq_v (fun I11 e11 => ?_)
        refine wq_v (fun v e => ?_)
        have t6 := congrArg Int32.toInt e
        have k9 : KX12 I M9 := by rw [e9]; exact KX12.sm35 k ⟨by omega, by omega⟩
        have k10 : KX12 I M10 := by rw [e10]; exact KX12.sm36 k9 ⟨by omega, by omega⟩
        have k11 : KX12 I11 M10 := by rw [e11]; exact KX12.si19 k10 ⟨by omega, by omega⟩
        have e19 : (I11 19).toInt = (I 19).toInt + 1 := by
          have q : I11 19 = I 19 + (1 : Int32) := by rw [e11]; rfl
          rw [q]; exact t7.trans (by omega)
        have e36 : M10 36 = upd (M 36) (I 19).toNatClampNeg (I 19) := by rw [e10, e9]; rfl
        have c := tn_of (I 19) (by omega)
        refine ih I11 L M10 v k11 ⟨by omega, by omega⟩ (by omega) (fun j hj => ?_) (by omega)
        rw [e36]
        unfold upd
        by_cases q : j = (I 19).toNatClampNeg
        · rw [if_pos q]; omega
        · rw [if_neg q]; exact hk j (by omega)
theorem tt_fX12_asks_133 {N : Nat} (hN : 3000000000 ≤ N) (I0 : Nat → Int32) (L0 : Int64) (M0 : Nat → Nat → Int32) (x2 : Int32) (x3 : Int32) (k_I0 : KX12 I0 M0) : wq (fX12_asks_133 N I0 L0 M0 x2 x3) (fun r => KX12 r.2.1 r.2.2.2 ∧ True) := by
  unfold fX12_asks_133
  refine wq_v (fun I1 e1 => ?_)
  have l_0 := il_0
  have k1 : KX12 I1 M0 := by rw [e1]; exact KX12.si19 k_I0 ⟨by decide, by decide⟩
  have q : (I1 19).toInt = 0 := by rw [e1]; exact il_0
  exact tu_8_133 hN x2 x3 N I1 L0 M0 (0 : Int32) k1 ⟨by omega, by omega⟩ (by omega) (fun j hj => by exfalso; omega) (by omega)
set_option maxHeartbeats 4000000 in
theorem tt_fX12_hits {N : Nat} (hN : 3000000000 ≤ N) (I0 : Nat → Int32) (L0 : Int64) (M0 : Nat → Nat → Int32) (x1 : Int32) (x2 : Int32) (k_I0 : KX12 I0 M0) : wq (fX12_hits N I0 L0 M0 x1 x2) (fun r => KX12 r.2.1 r.2.2.2 ∧ True) := by
  unfold fX12_hits
  refine wq_v (fun I0_4_q65103 h_I0_4_q65103 => ?_)
  have k_I0_4_q65103 : KX12 I0_4_q65103 M0 := by rw [h_I0_4_q65103]; exact KX12.si0 k_I0
  have b_65104 := i32b x1
  have l_0 := il_0
  refine wq_eq (fun hc_65105 => ?_) (fun hc_65106 => ?_)
  · unfold fX12_hits_J15
    have b_65107 := i32b x2
    have l_120 := il_120
    refine wq_b (tt_fX12_within hN x2 (0 : Int32) (120 : Int32)) (fun r3_q65108 h_r3_q65108 => ?_)
    obtain ⟨h_r3_q65108_0, h_r3_q65108_1, -⟩ := h_r3_q65108
    refine wq_eq (fun hc_65109 => ?_) (fun hc_65110 => ?_)
    · unfold fX12_hits_J29
      unfold fX12_hits_J30
      have l_1 := il_1
      refine wq_b (tt_fX12_right hN I0_4_q65103 L0 M0 (0 : Int32) (1 : Int32) ⟨by omega, by omega⟩ k_I0_4_q65103) (fun r1_q65111 h_r1_q65111 => ?_)
      obtain ⟨h_r1_q65111_0, h_r1_q65111_1, h_r1_q65111_2, h_r1_q65111_3, -⟩ := h_r1_q65111
      have t_65112 := KX12.i1 h_r1_q65111_3
      have t_65113 := KX12.i1 k_I0
      have t_65114 : (I0_4_q65103 1).toInt = (I0 1).toInt := by rw [h_I0_4_q65103]; rfl
      refine wq_eq (fun hc_65115 => ?_) (fun hc_65116 => ?_)
      · exact wq_s ⟨h_r1_q65111_3, trivial⟩
      · refine wq_b (tt_fX12_asks_133 hN r1_q65111.2.1 r1_q65111.2.2.1 r1_q65111.2.2.2 x1 x2 h_r1_q65111_3) (fun r2_q65117 h_r2_q65117 => ?_)
        obtain ⟨h_r2_q65117_0, -⟩ := h_r2_q65117
        have b_65118 := i32b r2_q65117.1
        exact wq_s ⟨h_r2_q65117_0, trivial⟩
    · unfold fX12_hits_J30
      have l_1 := il_1
      refine wq_b (tt_fX12_right hN I0_4_q65103 L0 M0 (1 : Int32) (1 : Int32) ⟨by omega, by omega⟩ k_I0_4_q65103) (fun r1_q65119 h_r1_q65119 => ?_)
      obtain ⟨h_r1_q65119_0, h_r1_q65119_1, h_r1_q65119_2, h_r1_q65119_3, -⟩ := h_r1_q65119
      have t_65120 := KX12.i1 h_r1_q65119_3
      have t_65121 := KX12.i1 k_I0
      have t_65122 : (I0_4_q65103 1).toInt = (I0 1).toInt := by rw [h_I0_4_q65103]; rfl
      refine wq_eq (fun hc_65123 => ?_) (fun hc_65124 => ?_)
      · exact wq_s ⟨h_r1_q65119_3, trivial⟩
      · refine wq_b (tt_fX12_asks_133 hN r1_q65119.2.1 r1_q65119.2.2.1 r1_q65119.2.2.2 x1 x2 h_r1_q65119_3) (fun r2_q65125 h_r2_q65125 => ?_)
        obtain ⟨h_r2_q65125_0, -⟩ := h_r2_q65125
        have b_65126 := i32b r2_q65125.1
        exact wq_s ⟨h_r2_q65125_0, trivial⟩
  · have l_1 := il_1
    refine wq_eq (fun hc_65127 => ?_) (fun hc_65128 => ?_)
    · unfold fX12_hits_J15
      have b_65129 := i32b x2
      have l_120 := il_120
      refine wq_b (tt_fX12_within hN x2 (0 : Int32) (120 : Int32)) (fun r3_q65130 h_r3_q65130 => ?_)
      obtain ⟨h_r3_q65130_0, h_r3_q65130_1, -⟩ := h_r3_q65130
      refine wq_eq (fun hc_65131 => ?_) (fun hc_65132 => ?_)
      · unfold fX12_hits_J29
        unfold fX12_hits_J30
        refine wq_b (tt_fX12_right hN I0_4_q65103 L0 M0 (0 : Int32) (1 : Int32) ⟨by omega, by omega⟩ k_I0_4_q65103) (fun r1_q65133 h_r1_q65133 => ?_)
        obtain ⟨h_r1_q65133_0, h_r1_q65133_1, h_r1_q65133_2, h_r1_q65133_3, -⟩ := h_r1_q65133
        have t_65134 := KX12.i1 h_r1_q65133_3
        have t_65135 := KX12.i1 k_I0
        have t_65136 : (I0_4_q65103 1).toInt = (I0 1).toInt := by rw [h_I0_4_q65103]; rfl
        refine wq_eq (fun hc_65137 => ?_) (fun hc_65138 => ?_)
        · exact wq_s ⟨h_r1_q65133_3, trivial⟩
        · refine wq_b (tt_fX12_asks_133 hN r1_q65133.2.1 r1_q65133.2.2.1 r1_q65133.2.2.2 x1 x2 h_r1_q65133_3) (fun r2_q65139 h_r2_q65139 => ?_)
          obtain ⟨h_r2_q65139_0, -⟩ := h_r2_q65139
          have b_65140 := i32b r2_q65139.1
          exact wq_s ⟨h_r2_q65139_0, trivial⟩
      · unfold fX12_hits_J30
        refine wq_b (tt_fX12_right hN I0_4_q65103 L0 M0 (1 : Int32) (1 : Int32) ⟨by omega, by omega⟩ k_I0_4_q65103) (fun r1_q65141 h_r1_q65141 => ?_)
        obtain ⟨h_r1_q65141_0, h_r1_q65141_1, h_r1_q65141_2, h_r1_q65141_3, -⟩ := h_r1_q65141
        have t_65142 := KX12.i1 h_r1_q65141_3
        have t_65143 := KX12.i1 k_I0
        have t_65144 : (I0_4_q65103 1).toInt = (I0 1).toInt := by rw [h_I0_4_q65103]; rfl
        refine wq_eq (fun hc_65145 => ?_) (fun hc_65146 => ?_)
        · exact wq_s ⟨h_r1_q65141_3, trivial⟩
        · refine wq_b (tt_fX12_asks_133 hN r1_q65141.2.1 r1_q65141.2.2.1 r1_q65141.2.2.2 x1 x2 h_r1_q65141_3) (fun r2_q65147 h_r2_q65147 => ?_)
          obtain ⟨h_r2_q65147_0, -⟩ := h_r2_q65147
          have b_65148 := i32b r2_q65147.1
          exact wq_s ⟨h_r2_q65147_0, trivial⟩
    · unfold fX12_hits_J29
      unfold fX12_hits_J30
      refine wq_b (tt_fX12_right hN I0_4_q65103 L0 M0 (0 : Int32) (1 : Int32) ⟨by omega, by omega⟩ k_I0_4_q65103) (fun r1_q65149 h_r1_q65149 => ?_)
      obtain ⟨h_r1_q65149_0, h_r1_q65149_1, h_r1_q65149_2, h_r1_q65149_3, -⟩ := h_r1_q65149
      have t_65150 := KX12.i1 h_r1_q65149_3
      have t_65151 := KX12.i1 k_I0
      have t_65152 : (I0_4_q65103 1).toInt = (I0 1).toInt := by rw [h_I0_4_q65103]; rfl
      refine wq_eq (fun hc_65153 => ?_) (fun hc_65154 => ?_)
      · exact wq_s ⟨h_r1_q65149_3, trivial⟩
      · have b_65155 := i32b x2
        refine wq_b (tt_fX12_asks_133 hN r1_q65149.2.1 r1_q65149.2.2.1 r1_q65149.2.2.2 x1 x2 h_r1_q65149_3) (fun r2_q65156 h_r2_q65156 => ?_)
        obtain ⟨h_r2_q65156_0, -⟩ := h_r2_q65156
        have b_65157 := i32b r2_q65156.1
        exact wq_s ⟨h_r2_q65156_0, trivial⟩
theorem tu_97_135 {N : Nat} (hN : 3000000000 ≤ N) (x2 x3 r2 : Int32) (g8 : (Nat → Int32) → Int64 → (Nat → Nat → Int32) → Int32 → Option (Int32 × (Nat → Int32) × Int64 × (Nat → Nat → Int32))) (n : Nat) (hn : n ≤ 8) : ∀ (fu : Nat) (I : Nat → Int32) (L : Int64) (M : Nat → Nat → Int32) (y5 y6 : Int32), KX12 I M → 0 < fu → (y6.toInt = 0 ∨ (y6.toInt = 1 ∧ PI9 n (M 36) ∧ (I 19).toInt = (n : Int) ∧ 16777217 - vl (M 36) n < (fu : Int))) → wq (fX12_asks_135_L97 N x2 x3 r2 g8 fu I L M y5 y6) (fun r => KX12 r.2.1 r.2.2.2 ∧ True) := by
  intro fu
  induction fu with
  | zero => intro I L M y5 y6 k h0 h; exact absurd h0 (by decide)
  | succ fu ih =>
    intro I L M y5 y6 k h0 h
    rw [fX12_asks_135_L97.eq_2]
    have l_0 := il_0
    refine wq_eq (fun hc => wq_s ⟨k, trivial⟩) (fun hc => ?_)
    obtain ⟨h1, p, h9, hm⟩ : y6.toInt = 1 ∧ PI9 n (M 36) ∧ (I 19).toInt = (n : Int) ∧ 16777217 - vl (M 36) n < ((fu + 1 : Nat) : Int) := by
      rcases h with q | q
      · exfalso; omega
      · exact q
    have vb := vl_b (M 36) n p.1
    have p8 := p8_le n hn
    have nx : ∀ (w v : Int32) (r : Int32 × (Nat → Int32) × Int64 × (Nat → Nat → Int32)), TP n I M r → v = r.1 → wq (fX12_asks_135_L97 N x2 x3 r2 g8 fu r.2.1 r.2.2.1 r.2.2.2 w v) (fun r => KX12 r.2.1 r.2.2.2 ∧ True) := by
      intro w v r hr e
      obtain ⟨kr, er, hr⟩ := hr
      refine ih r.2.1 r.2.2.1 r.2.2.2 w v kr (by omega) ?_
      rw [e]
      rcases hr with q | ⟨q1, q2, q3⟩
      · exact Or.inl q
      · exact Or.inr ⟨q1, q2, by rw [er]; exact h9, by omega⟩
    refine wq_b (tt_fX12_hitsBy hN I L M x3 k) (fun r3 _ => ?_)
    refine wq_i (fun _ => ?_) (fun _ => ?_)
    · exact wq_b (tu_turns hN n hn I L M k p h9) (fun r hr => wq_v (fun v e => nx _ v r hr e))
    · exact wq_v (fun w _ => wq_b (tu_turns hN n hn I L M k p h9) (fun r hr => wq_v (fun v e => nx w v r hr e)))
theorem tu_8_135 {N : Nat} (hN : 3000000000 ≤ N) (x2 x3 : Int32) : ∀ (fu : Nat) (I : Nat → Int32) (L : Int64) (M : Nat → Nat → Int32) (y : Int32), KX12 I M → (0 ≤ y.toInt ∧ y.toInt ≤ 20) → (I 19).toInt ≤ y.toInt → (∀ k : Nat, (k : Int) < (I 19).toInt → (M 36 k).toInt = (k : Int)) → 20 - y.toInt < (fu : Int) → wq (fX12_asks_135_L8 N x2 x3 fu I L M y) (fun r => KX12 r.2.1 r.2.2.2 ∧ True) := by
  intro fu
  induction fu with
  | zero => intro I L M y k hy h9 hk hm; exfalso; omega
  | succ fu ih =>
    intro I L M y k hy h9 hk hm
    rw [fX12_asks_135_L8.eq_2]
    have l_20 := il_20
    have l_8 := il_8
    have l_1 := il_1
    have i19 := k.i19
    refine wq_le (fun hc => ?_) (fun hc => ?_)
    · refine wq_b (tt_fX12_hitsBy hN I L M x3 k) (fun r2 _ => ?_)
      refine wq_i (fun _ => wq_s ⟨k, trivial⟩) (fun _ => ?_)
      refine wq_le (fun hc2 => ?_) (fun hc2 => wq_s ⟨k, trivial⟩)
      have p : PI9 (I 19).toInt.toNat (M 36) := by
        refine ⟨fun j hj => ?_, fun a b ha hb e => ?_⟩
        · have := hk j (by omega)
          omega
        · have h1 := hk a (by omega)
          have h2 := hk b (by omega)
          rw [e] at h1
          omega
      have vb := vl_b (M 36) (I 19).toInt.toNat p.1
      exact tu_97_135 hN x2 x3 r2 _ (I 19).toInt.toNat (by omega) N I L M (0 : Int32) (1 : Int32) k (by omega) (Or.inr ⟨il_1, p, by omega, by omega⟩)
    · have t5 := ia_add y (1 : Int32) (by omega) (by omega)
      refine wq_in (n := 20) ⟨by omega, by omega⟩ ?_
      refine wq_i (fun _ => wq_v (fun v e => ?_)) (fun _ => ?_)
      · have t6 := congrArg Int32.toInt e
        exact ih I L M v k ⟨by omega, by omega⟩ (by omega) hk (by omega)
      · refine wq_in (n := 20) ⟨by omega, by omega⟩ ?_
        refine wq_v (fun M9 e9 => ?_)
        refine wq_in (n := 20) ⟨by omega, by omega⟩ ?_
        refine wq_v (fun M10 e10 => ?_)
        have t7 := ia_add (I 19) (1 : Int32) (by omega) (by omega)
        refine wq_v (fun I11 e11 => ?_)
        refine wq_v (fun v e => ?_)
        have t6 := congrArg Int32.toInt e
        have k9 : KX12 I M9 := by rw [e9]; exact KX12.sm35 k ⟨by omega, by omega⟩
        have k10 : KX12 I M10 := by rw [e10]; exact KX12.sm36 k9 ⟨by omega, by omega⟩
        have k11 : KX12 I11 M10 := by rw [e11]; exact KX12.si19 k10 ⟨by omega, by omega⟩
        have e19 : (I11 19).toInt = (I 19).toInt + 1 := by
          have q : I11 19 = I 19 + (1 : Int32) := by rw [e11]; rfl
          rw [q]; exact t7.trans (by omega)
        have e36 : M10 36 = upd (M 36) (I 19).toNatClampNeg (I 19) := by rw [e10, e9]; rfl
        have c := tn_of (I 19) (by omega)
        refine ih I11 L M10 v k11 ⟨by omega, by omega⟩ (by omega) (fun j hj => ?_) (by omega)
        rw [e36]
        unfold upd
        by_cases q : j = (I 19).toNatClampNeg
        · rw [if_pos q]; omega
        · rw [if_neg q]; exact hk j (by omega)
theorem tt_fX12_asks_135 {N : Nat} (hN : 3000000000 ≤ N) (I0 : Nat → Int32) (L0 : Int64) (M0 : Nat → Nat → Int32) (x2 : Int32) (x3 : Int32) (k_I0 : KX12 I0 M0) : wq (fX12_asks_135 N I0 L0 M0 x2 x3) (fun r => KX12 r.2.1 r.2.2.2 ∧ True) := by
  unfold fX12_asks_135
  refine wq_v (fun I1 e1 => ?_)
  have l_0 := il_0
  have k1 : KX12 I1 M0 := by rw [e1]; exact KX12.si19 k_I0 ⟨by decide, by decide⟩
  have q : (I1 19).toInt = 0 := by rw [e1]; exact il_0
  exact tu_8_135 hN x2 x3 N I1 L0 M0 (0 : Int32) k1 ⟨by omega, by omega⟩ (by omega) (fun j hj => by exfalso; omega) (by omega)
set_option maxHeartbeats 4000000 in
theorem tt_fX12_fates {N : Nat} (hN : 3000000000 ≤ N) (I0 : Nat → Int32) (L0 : Int64) (M0 : Nat → Nat → Int32) (x1 : Int32) (k_I0 : KX12 I0 M0) : wq (fX12_fates N I0 L0 M0 x1) (fun r => KX12 r.2.1 r.2.2.2 ∧ True) := by
  unfold fX12_fates
  refine wq_v (fun I0_3_q65338 h_I0_3_q65338 => ?_)
  have k_I0_3_q65338 : KX12 I0_3_q65338 M0 := by rw [h_I0_3_q65338]; exact KX12.si0 k_I0
  have b_65339 := i32b x1
  have l_0 := il_0
  refine wq_eq (fun hc_65340 => ?_) (fun hc_65341 => ?_)
  · unfold fX12_fates_J15
    unfold fX12_fates_J20
    have l_1 := il_1
    refine wq_b (tt_fX12_right hN I0_3_q65338 L0 M0 (1 : Int32) (1 : Int32) ⟨by omega, by omega⟩ k_I0_3_q65338) (fun r1_q65342 h_r1_q65342 => ?_)
    obtain ⟨h_r1_q65342_0, h_r1_q65342_1, h_r1_q65342_2, h_r1_q65342_3, -⟩ := h_r1_q65342
    have t_65343 := KX12.i1 h_r1_q65342_3
    have t_65344 := KX12.i1 k_I0
    have t_65345 : (I0_3_q65338 1).toInt = (I0 1).toInt := by rw [h_I0_3_q65338]; rfl
    refine wq_eq (fun hc_65346 => ?_) (fun hc_65347 => ?_)
    · exact wq_s ⟨h_r1_q65342_3, trivial⟩
    · have l_m1 := il_m1
      refine wq_b (tt_fX12_asks_135 hN r1_q65342.2.1 r1_q65342.2.2.1 r1_q65342.2.2.2 x1 ((-1) : Int32) h_r1_q65342_3) (fun r2_q65348 h_r2_q65348 => ?_)
      obtain ⟨h_r2_q65348_0, -⟩ := h_r2_q65348
      have b_65349 := i32b r2_q65348.1
      exact wq_s ⟨h_r2_q65348_0, trivial⟩
  · have l_1 := il_1
    refine wq_eq (fun hc_65350 => ?_) (fun hc_65351 => ?_)
    · unfold fX12_fates_J15
      unfold fX12_fates_J20
      refine wq_b (tt_fX12_right hN I0_3_q65338 L0 M0 (1 : Int32) (1 : Int32) ⟨by omega, by omega⟩ k_I0_3_q65338) (fun r1_q65352 h_r1_q65352 => ?_)
      obtain ⟨h_r1_q65352_0, h_r1_q65352_1, h_r1_q65352_2, h_r1_q65352_3, -⟩ := h_r1_q65352
      have t_65353 := KX12.i1 h_r1_q65352_3
      have t_65354 := KX12.i1 k_I0
      have t_65355 : (I0_3_q65338 1).toInt = (I0 1).toInt := by rw [h_I0_3_q65338]; rfl
      refine wq_eq (fun hc_65356 => ?_) (fun hc_65357 => ?_)
      · exact wq_s ⟨h_r1_q65352_3, trivial⟩
      · have l_m1 := il_m1
        refine wq_b (tt_fX12_asks_135 hN r1_q65352.2.1 r1_q65352.2.2.1 r1_q65352.2.2.2 x1 ((-1) : Int32) h_r1_q65352_3) (fun r2_q65358 h_r2_q65358 => ?_)
        obtain ⟨h_r2_q65358_0, -⟩ := h_r2_q65358
        have b_65359 := i32b r2_q65358.1
        exact wq_s ⟨h_r2_q65358_0, trivial⟩
    · unfold fX12_fates_J20
      refine wq_b (tt_fX12_right hN I0_3_q65338 L0 M0 (0 : Int32) (1 : Int32) ⟨by omega, by omega⟩ k_I0_3_q65338) (fun r1_q65360 h_r1_q65360 => ?_)
      obtain ⟨h_r1_q65360_0, h_r1_q65360_1, h_r1_q65360_2, h_r1_q65360_3, -⟩ := h_r1_q65360
      have t_65361 := KX12.i1 h_r1_q65360_3
      have t_65362 := KX12.i1 k_I0
      have t_65363 : (I0_3_q65338 1).toInt = (I0 1).toInt := by rw [h_I0_3_q65338]; rfl
      refine wq_eq (fun hc_65364 => ?_) (fun hc_65365 => ?_)
      · exact wq_s ⟨h_r1_q65360_3, trivial⟩
      · have l_m1 := il_m1
        refine wq_b (tt_fX12_asks_135 hN r1_q65360.2.1 r1_q65360.2.2.1 r1_q65360.2.2.2 x1 ((-1) : Int32) h_r1_q65360_3) (fun r2_q65366 h_r2_q65366 => ?_)
        obtain ⟨h_r2_q65366_0, -⟩ := h_r2_q65366
        have b_65367 := i32b r2_q65366.1
        exact wq_s ⟨h_r2_q65366_0, trivial⟩

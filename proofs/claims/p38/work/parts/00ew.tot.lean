theorem tu_turns {N : Nat} (hN : 3000000000 ≤ N) (n : Nat) (hn : n ≤ 8) (I : Nat → Int32) (L : Int64) (M : Nat → Nat → Int32) (k : KX12 I M) (p : PI9 n (M 36)) (h9 : (I 19).toInt = (n : Int)) : wq (fX12_turns N I L M) (TP n I M) := by
  unfold fX12_turns
  have l_2 := il_2
  have t2 := ia_sub (I 19) (2 : Int32) (by omega) (by omega)
  refine wq_v (fun v1 e1 => ?_)
  have t3 := congrArg Int32.toInt e1
  exact tu_7 hN n hn N I L M v1 k p h9 ⟨by omega, by omega⟩ (by omega)
theorem tu_97_133 {N : Nat} (hN : 3000000000 ≤ N) (x2 x3 r2 : Int32) (g8 : (Nat → Int32) → Int64 → (Nat → Nat → Int32) → Int32 → Option (Int32 × (Nat → Int32) × Int64 × (Nat → Nat → Int32))) (n : Nat) (hn : n ≤ 8) : ∀ (fu : Nat) (I : Nat → Int32) (L : Int64) (M : Nat → Nat → Int32) (y5 y6 : Int32), KX12 I M → 0 < fu → (y6.toInt = 0 ∨ (y6.toInt = 1 ∧ PI9 n (M 36) ∧ (I 19).toInt = (n : Int) ∧ 16777217 - vl (M 36) n < (fu : Int))) → wq (fX12_asks_133_L97 N x2 x3 r2 g8 fu I L M y5 y6) (fun r => KX12 r.2.1 r.2.2.2 ∧ True) := by
  intro fu
  induction fu with
  | zero => intro I L M y5 y6 k h0 h; exact absurd h0 (by decide)
  | succ fu ih =>
    intro I L M y5 y6 k h0 h
    rw [fX12_asks_133_L97.eq_2]
    have l_0 := il_0
    refine wq_eq (fun hc => wq_s ⟨k, trivial⟩) (fun hc => ?_)
    obtain ⟨h1, p, h9, hm⟩ : y6.toInt = 1 ∧ PI9 n (M 36) ∧ (I 19).toInt = (n : Int) ∧ 16777217 - vl (M 36) n < ((fu + 1 : Nat) : Int) := by
      rcases h with q | q
      · exfalso; omega
      · exact q
    have vb := vl_b (M 36) n p.1
    have p8 := p8_le n hn
    have nx : ∀ (w v : Int32) (r : Int32 × (Nat → Int32) × Int64 × (Nat → Nat → Int32)), TP n I M r → v = r.1 → wq (fX12_asks_133_L97 N x2 x3 r2 g8 fu r.2.1 r.2.2.1 r.2.2.2 w v) (fun r => KX12 r.2.1 r.2.2.2 ∧ True) := by
      intro w v r hr e
      obtain ⟨kr, er, hr⟩ := hr
      refine ih r.2.1 r.2.2.1 r.2.2.2 w v kr (by omega) ?_
      rw [e]
      rcases hr with q | ⟨q1, q2, q3⟩
      · exact Or.inl q
      · exact Or.inr ⟨q1, q2, by rw [er]; exact h9, by omega⟩
    refine wq_b (tt_fX12_hitsBy hN I L M x3 k) (fun r3 _ => ?_)
    refine wq_i (fun _ => ?_) (fun _ => ?_)
    · exact wq_b (tu_turns hN n hn I L M k p h9) (fun r hr => wq_v (fun v e => nx _ v r hr e))
    · exact wq_v (fun w _ => wq_b (tu_turns hN n hn I L M k p h9) (fun r hr => wq_v (fun v e => nx w v r hr e)))
theorem tu_8_133 {N : Nat} (hN : 3000000000 ≤ N) (x2 x3 : Int32) : ∀ (fu : Nat) (I : Nat → Int32) (L : Int64) (M : Nat → Nat → Int32) (y : Int32), KX12 I M → (0 ≤ y.toInt ∧ y.toInt ≤ 20) → (I 19).toInt ≤ y.toInt → (∀ k : Nat, (k : Int) < (I 19).toInt → (M 36 k).toInt = (k : Int)) → 20 - y.toInt < (fu : Int) → wq (fX12_asks_133_L8 N x2 x3 fu I L M y) (fun r => KX12 r.2.1 r.2.2.2 ∧ True) := by
  intro fu
  induction fu with
  | zero => intro I L M y k hy h9 hk hm; exfalso; omega
  | succ fu ih =>
    intro I L M y k hy h9 hk hm
    rw [fX12_asks_133_L8.eq_2]
    have l_20 := il_20
    have l_8 := il_8
    have l_1 := il_1
    have i19 := k.i19
    refine wq_le (fun hc => ?_) (fun hc => ?_)
    · refine wq_b (tt_fX12_hitsBy hN I L M x3 k) (fun r2 _ => ?_)
      refine wq_i (fun _ => wq_s ⟨k, trivial⟩) (fun _ => ?_)
      refine wq_le (fun hc2 => ?_) (fun hc2 => wq_s ⟨k, trivial⟩)
      have p : PI9 (I 19).toInt.toNat (M 36) := by
        refine ⟨fun j hj => ?_, fun a b ha hb e => ?_⟩
        · have := hk j (by omega)
          omega
        · have h1 := hk a (by omega)
          have h2 := hk b (by omega)
          rw [e] at h1
          omega
      have vb := vl_b (M 36) (I 19).toInt.toNat p.1
      exact tu_97_133 hN x2 x3 r2 _ (I 19).toInt.toNat (by omega) N I L M (0 : Int32) (1 : Int32) k (by omega) (Or.inr ⟨il_1, p, by omega, by omega⟩)
    · have t5 := ia_add y (1 : Int32) (by omega) (by omega)
      refine wq_in (n := 20) ⟨by omega, by omega⟩ ?_
      refine wq_i (fun _ => wq_v (fun v e => ?_)) (fun _ => ?_)
      · have t6 := congrArg Int32.toInt e
        exact ih I L M v k ⟨by omega, by omega⟩ (by omega) hk (by omega)
      · refine wq_in (n := 20) ⟨by omega, by omega⟩ ?_
        refine wq_v (fun M9 e9 => ?_)
        refine wq_in (n := 20) ⟨by omega, by omega⟩ ?_
        refine wq_v (fun M10 e10 => ?_)
        have t7 := ia_add (I 19) (1 : Int32) (by omega) (by omega)
        refine wq_v (fun I11 e11 => ?_)
        refine wq_v (fun v e => ?_)
        have t6 := congrArg Int32.toInt e
        have k9 : KX12 I M9 := by rw [e9]; exact KX12.sm35 k ⟨by omega, by omega⟩
        have k10 : KX12 I M10 := by rw [e10]; exact KX12.sm36 k9 ⟨by omega, by omega⟩
        have k11 : KX12 I11 M10 := by rw [e11]; exact KX12.si19 k10 ⟨by omega, by omega⟩
        have e19 : (I11 19).toInt = (I 19).toInt + 1 := by
          have q : I11 19 = I 19 + (1 : Int32) := by rw [e11]; rfl
          rw [q]; exact t7.trans (by omega)
        have e36 : M10 36 = upd (M 36) (I 19).toNatClampNeg (I 19) := by rw [e10, e9]; rfl
        have c := tn_of (I 19) (by omega)
        refine ih I11 L M10 v k11 ⟨by omega, by omega⟩ (by omega) (fun j hj => ?_) (by omega)
        rw [e36]
        unfold upd
        by_cases q : j = (I 19).toNatClampNeg
        · rw [if_pos q]; omega
        · rw [if_neg q]; exact hk j (by omega)
theorem tt_fX12_asks_133 {N : Nat} (hN : 3000000000 ≤ N) (I0 : Nat → Int32) (L0 : Int64) (M0 : Nat → Nat → Int32) (x2 : Int32) (x3 : Int32) (k_I0 : KX12 I0 M0) : wq (fX12_asks_133 N I0 L0 M0 x2 x3) (fun r => KX12 r.2.1 r.2.2.2 ∧ True) := by
  unfold fX12_asks_133
  refine wq_v (fun I1 e1 => ?_)
  have l_0 := il_0
  have k1 : KX12 I1 M0 := by rw [e1]; exact KX12.si19 k_I0 ⟨by decide, by decide⟩
  have q : (I1 19).toInt = 0 := by rw [e1]; exact il_0
  exact tu_8_133 hN x2 x3 N I1 L0 M0 (0 : Int32) k1 ⟨by omega, by omega⟩ (by omega) (fun j hj => by exfalso; omega) (by omega)
set_option maxHeartbeats 4000000 in
theorem tt_fX12_hits {N : Nat} (hN : 3000000000 ≤ N) (I0 : Nat → Int32) (L0 : Int64) (M0 : Nat → Nat → Int32) (x1 : Int32) (x2 : Int32) (k_I0 : KX12 I0 M0) : wq (fX12_hits N I0 L0 M0 x1 x2) (fun r => KX12 r.2.1 r.2.2.2 ∧ True) := by
  unfold fX12_hits
  refine wq_v (fun I0_4_q60177 h_I0_4_q60177 => ?_)
  have k_I0_4_q60177 : KX12 I0_4_q60177 M0 := by rw [h_I0_4_q60177]; exact KX12.si0 k_I0
  have b_60178 := i32b x1
  have l_0 := il_0
  refine wq_eq (fun hc_60179 => ?_) (fun hc_60180 => ?_)
  · unfold fX12_hits_J15
    have b_60181 := i32b x2
    have l_120 := il_120
    refine wq_b (tt_fX12_within hN x2 (0 : Int32) (120 : Int32)) (fun r3_q60182 h_r3_q60182 => ?_)
    obtain ⟨h_r3_q60182_0, h_r3_q60182_1, -⟩ := h_r3_q60182
    refine wq_eq (fun hc_60183 => ?_) (fun hc_60184 => ?_)
    · unfold fX12_hits_J29
      unfold fX12_hits_J30
      have l_1 := il_1
      refine wq_b (tt_fX12_right hN I0_4_q60177 L0 M0 (0 : Int32) (1 : Int32) ⟨by omega, by omega⟩ k_I0_4_q60177) (fun r1_q60185 h_r1_q60185 => ?_)
      obtain ⟨h_r1_q60185_0, h_r1_q60185_1, h_r1_q60185_2, h_r1_q60185_3, -⟩ := h_r1_q60185
      have t_60186 := KX12.i1 h_r1_q60185_3
      have t_60187 := KX12.i1 k_I0
      have t_60188 : (I0_4_q60177 1).toInt = (I0 1).toInt := by rw [h_I0_4_q60177]; rfl
      refine wq_eq (fun hc_60189 => ?_) (fun hc_60190 => ?_)
      · exact wq_s ⟨h_r1_q60185_3, trivial⟩
      · refine wq_b (tt_fX12_asks_133 hN r1_q60185.2.1 r1_q60185.2.2.1 r1_q60185.2.2.2 x1 x2 h_r1_q60185_3) (fun r2_q60191 h_r2_q60191 => ?_)
        obtain ⟨h_r2_q60191_0, -⟩ := h_r2_q60191
        have b_60192 := i32b r2_q60191.1
        exact wq_s ⟨h_r2_q60191_0, trivial⟩
    · unfold fX12_hits_J30
      have l_1 := il_1
      refine wq_b (tt_fX12_right hN I0_4_q60177 L0 M0 (1 : Int32) (1 : Int32) ⟨by omega, by omega⟩ k_I0_4_q60177) (fun r1_q60193 h_r1_q60193 => ?_)
      obtain ⟨h_r1_q60193_0, h_r1_q60193_1, h_r1_q60193_2, h_r1_q60193_3, -⟩ := h_r1_q60193
      have t_60194 := KX12.i1 h_r1_q60193_3
      have t_60195 := KX12.i1 k_I0
      have t_60196 : (I0_4_q60177 1).toInt = (I0 1).toInt := by rw [h_I0_4_q60177]; rfl
      refine wq_eq (fun hc_60197 => ?_) (fun hc_60198 => ?_)
      · exact wq_s ⟨h_r1_q60193_3, trivial⟩
      · refine wq_b (tt_fX12_asks_133 hN r1_q60193.2.1 r1_q60193.2.2.1 r1_q60193.2.2.2 x1 x2 h_r1_q60193_3) (fun r2_q60199 h_r2_q60199 => ?_)
        obtain ⟨h_r2_q60199_0, -⟩ := h_r2_q60199
        have b_60200 := i32b r2_q60199.1
        exact wq_s ⟨h_r2_q60199_0, trivial⟩
  · have l_1 := il_1
    refine wq_eq (fun hc_60201 => ?_) (fun hc_60202 => ?_)
    · unfold fX12_hits_J15
      have b_60203 := i32b x2
      have l_120 := il_120
      refine wq_b (tt_fX12_within hN x2 (0 : Int32) (120 : Int32)) (fun r3_q60204 h_r3_q60204 => ?_)
      obtain ⟨h_r3_q60204_0, h_r3_q60204_1, -⟩ := h_r3_q60204
      refine wq_eq (fun hc_60205 => ?_) (fun hc_60206 => ?_)
      · unfold fX12_hits_J29
        unfold fX12_hits_J30
        refine wq_b (tt_fX12_right hN I0_4_q60177 L0 M0 (0 : Int32) (1 : Int32) ⟨by omega, by omega⟩ k_I0_4_q60177) (fun r1_q60207 h_r1_q60207 => ?_)
        obtain ⟨h_r1_q60207_0, h_r1_q60207_1, h_r1_q60207_2, h_r1_q60207_3, -⟩ := h_r1_q60207
        have t_60208 := KX12.i1 h_r1_q60207_3
        have t_60209 := KX12.i1 k_I0
        have t_60210 : (I0_4_q60177 1).toInt = (I0 1).toInt := by rw [h_I0_4_q60177]; rfl
        refine wq_eq (fun hc_60211 => ?_) (fun hc_60212 => ?_)
        · exact wq_s ⟨h_r1_q60207_3, trivial⟩
        · refine wq_b (tt_fX12_asks_133 hN r1_q60207.2.1 r1_q60207.2.2.1 r1_q60207.2.2.2 x1 x2 h_r1_q60207_3) (fun r2_q60213 h_r2_q60213 => ?_)
          obtain ⟨h_r2_q60213_0, -⟩ := h_r2_q60213
          have b_60214 := i32b r2_q60213.1
          exact wq_s ⟨h_r2_q60213_0, trivial⟩
      · unfold fX12_hits_J30
        refine wq_b (tt_fX12_right hN I0_4_q60177 L0 M0 (1 : Int32) (1 : Int32) ⟨by omega, by omega⟩ k_I0_4_q60177) (fun r1_q60215 h_r1_q60215 => ?_)
        obtain ⟨h_r1_q60215_0, h_r1_q60215_1, h_r1_q60215_2, h_r1_q60215_3, -⟩ := h_r1_q60215
        have t_60216 := KX12.i1 h_r1_q60215_3
        have t_60217 := KX12.i1 k_I0
        have t_60218 : (I0_4_q60177 1).toInt = (I0 1).toInt := by rw [h_I0_4_q60177]; rfl
        refine wq_eq (fun hc_60219 => ?_) (fun hc_60220 => ?_)
        · exact wq_s ⟨h_r1_q60215_3, trivial⟩
        · refine wq_b (tt_fX12_asks_133 hN r1_q60215.2.1 r1_q60215.2.2.1 r1_q60215.2.2.2 x1 x2 h_r1_q60215_3) (fun r2_q60221 h_r2_q60221 => ?_)
          obtain ⟨h_r2_q60221_0, -⟩ := h_r2_q60221
          have b_60222 := i32b r2_q60221.1
          exact wq_s ⟨h_r2_q60221_0, trivial⟩
    · unfold fX12_hits_J29
      unfold fX12_hits_J30
      refine wq_b (tt_fX12_right hN I0_4_q60177 L0 M0 (0 : Int32) (1 : Int32) ⟨by omega, by omega⟩ k_I0_4_q60177) (fun r1_q60223 h_r1_q60223 => ?_)
      obtain ⟨h_r1_q60223_0, h_r1_q60223_1, h_r1_q60223_2, h_r1_q60223_3, -⟩ := h_r1_q60223
      have t_60224 := KX12.i1 h_r1_q60223_3
      have t_60225 := KX12.i1 k_I0
      have t_60226 : (I0_4_q60177 1).toInt = (I0 1).toInt := by rw [h_I0_4_q60177]; rfl
      refine wq_eq (fun hc_60227 => ?_) (fun hc_60228 => ?_)
      · exact wq_s ⟨h_r1_q60223_3, trivial⟩
      · have b_60229 := i32b x2
        refine wq_b (tt_fX12_asks_133 hN r1_q60223.2.1 r1_q60223.2.2.1 r1_q60223.2.2.2 x1 x2 h_r1_q60223_3) (fun r2_q60230 h_r2_q60230 => ?_)
        obtain ⟨h_r2_q60230_0, -⟩ := h_r2_q60230
        have b_60231 := i32b r2_q60230.1
        exact wq_s ⟨h_r2_q60230_0, trivial⟩
theorem tu_97_135 {N : Nat} (hN : 3000000000 ≤ N) (x2 x3 r2 : Int32) (g8 : (Nat → Int32) → Int64 → (Nat → Nat → Int32) → Int32 → Option (Int32 × (Nat → Int32) × Int64 × (Nat → Nat → Int32))) (n : Nat) (hn : n ≤ 8) : ∀ (fu : Nat) (I : Nat → Int32) (L : Int64) (M : Nat → Nat → Int32) (y5 y6 : Int32), KX12 I M → 0 < fu → (y6.toInt = 0 ∨ (y6.toInt = 1 ∧ PI9 n (M 36) ∧ (I 19).toInt = (n : Int) ∧ 16777217 - vl (M 36) n < (fu : Int))) → wq (fX12_asks_135_L97 N x2 x3 r2 g8 fu I L M y5 y6) (fun r => KX12 r.2.1 r.2.2.2 ∧ True) := by
  intro fu
  induction fu with
  | zero => intro I L M y5 y6 k h0 h; exact absurd h0 (by decide)
  | succ fu ih =>
    intro I L M y5 y6 k h0 h
    rw [fX12_asks_135_L97.eq_2]
    have l_0 := il_0
    refine wq_eq (fun hc => wq_s ⟨k, trivial⟩) (fun hc => ?_)
    obtain ⟨h1, p, h9, hm⟩ : y6.toInt = 1 ∧ PI9 n (M 36) ∧ (I 19).toInt = (n : Int) ∧ 16777217 - vl (M 36) n < ((fu + 1 : Nat) : Int) := by
      rcases h with q | q
      · exfalso; omega
      · exact q
    have vb := vl_b (M 36) n p.1
    have p8 := p8_le n hn
    have nx : ∀ (w v : Int32) (r : Int32 × (Nat → Int32) × Int64 × (Nat → Nat → Int32)), TP n I M r → v = r.1 → wq (fX12_asks_135_L97 N x2 x3 r2 g8 fu r.2.1 r.2.2.1 r.2.2.2 w v) (fun r => KX12 r.2.1 r.2.2.2 ∧ True) := by
      intro w v r hr e
      obtain ⟨kr, er, hr⟩ := hr
      refine ih r.2.1 r.2.2.1 r.2.2.2 w v kr (by omega) ?_
      rw [e]
      rcases hr with q | ⟨q1, q2, q3⟩
      · exact Or.inl q
      · exact Or.inr ⟨q1, q2, by rw [er]; exact h9, by omega⟩
    refine wq_b (tt_fX12_hitsBy hN I L M x3 k) (fun r3 _ => ?_)
    refine wq_i (fun _ => ?_) (fun _ => ?_)
    · exact wq_b (tu_turns hN n hn I L M k p h9) (fun r hr => wq_v (fun v e => nx _ v r hr e))
    · exact wq_v (fun w _ => wq_b (tu_turns hN n hn I L M k p h9) (fun r hr => wq_v (fun v e => nx w v r hr e)))
theorem tu_8_135 {N : Nat} (hN : 3000000000 ≤ N) (x2 x3 : Int32) : ∀ (fu : Nat) (I : Nat → Int32) (L : Int64) (M : Nat → Nat → Int32) (y : Int32), KX12 I M → (0 ≤ y.toInt ∧ y.toInt ≤ 20) → (I 19).toInt ≤ y.toInt → (∀ k : Nat, (k : Int) < (I 19).toInt → (M 36 k).toInt = (k : Int)) → 20 - y.toInt < (fu : Int) → wq (fX12_asks_135_L8 N x2 x3 fu I L M y) (fun r => KX12 r.2.1 r.2.2.2 ∧ True) := by
  intro fu
  induction fu with
  | zero => intro I L M y k hy h9 hk hm; exfalso; omega
  | succ fu ih =>
    intro I L M y k hy h9 hk hm
    rw [fX12_asks_135_L8.eq_2]
    have l_20 := il_20
    have l_8 := il_8
    have l_1 := il_1
    have i19 := k.i19
    refine wq_le (fun hc => ?_) (fun hc => ?_)
    · refine wq_b (tt_fX12_hitsBy hN I L M x3 k) (fun r2 _ => ?_)
      refine wq_i (fun _ => wq_s ⟨k, trivial⟩) (fun _ => ?_)
      refine wq_le (fun hc2 => ?_) (fun hc2 => wq_s ⟨k, trivial⟩)
      have p : PI9 (I 19).toInt.toNat (M 36) := by
        refine ⟨fun j hj => ?_, fun a b ha hb e => ?_⟩
        · have := hk j (by omega)
          omega
        · have h1 := hk a (by omega)
          have h2 := hk b (by omega)
          rw [e] at h1
          omega
      have vb := vl_b (M 36) (I 19).toInt.toNat p.1
      exact tu_97_135 hN x2 x3 r2 _ (I 19).toInt.toNat (by omega) N I L M (0 : Int32) (1 : Int32) k (by omega) (Or.inr ⟨il_1, p, by omega, by omega⟩)
    · have t5 := ia_add y (1 : Int32) (by omega) (by omega)
      refine wq_in (n := 20) ⟨by omega, by omega⟩ ?_
      refine wq_i (fun _ => wq_v (fun v e => ?_)) (fun _ => ?_)
      · have t6 := congrArg Int32.toInt e
        exact ih I L M v k ⟨by omega, by omega⟩ (by omega) hk (by omega)
      · refine wq_in (n := 20) ⟨by omega, by omega⟩ ?_
        refine wq_v (fun M9 e9 => ?_)
        refine wq_in (n := 20) ⟨by omega, by omega⟩ ?_
        refine wq_v (fun M10 e10 => ?_)
        have t7 := ia_add (I 19) (1 : Int32) (by omega) (by omega)
        refine wq_v (fun I11 e11 => ?_)
        refine wq_v (fun v e => ?_)
        have t6 := congrArg Int32.toInt e
        have k9 : KX12 I M9 := by rw [e9]; exact KX12.sm35 k ⟨by omega, by omega⟩
        have k10 : KX12 I M10 := by rw [e10]; exact KX12.sm36 k9 ⟨by omega, by omega⟩
        have k11 : KX12 I11 M10 := by rw [e11]; exact KX12.si19 k10 ⟨by omega, by omega⟩
        have e19 : (I11 19).toInt = (I 19).toInt + 1 := by
          have q : I11 19 = I 19 + (1 : Int32) := by rw [e11]; rfl
          rw [q]; exact t7.trans (by omega)
        have e36 : M10 36 = upd (M 36) (I 19).toNatClampNeg (I 19) := by rw [e10, e9]; rfl
        have c := tn_of (I 19) (by omega)
        refine ih I11 L M10 v k11 ⟨by omega, by omega⟩ (by omega) (fun j hj => ?_) (by omega)
        rw [e36]
        unfold upd
        by_cases q : j = (I 19).toNatClampNeg
        · rw [if_pos q]; omega
        · rw [if_neg q]; exact hk j (by omega)
theorem tt_fX12_asks_135 {N : Nat} (hN : 3000000000 ≤ N) (I0 : Nat → Int32) (L0 : Int64) (M0 : Nat → Nat → Int32) (x2 : Int32) (x3 : Int32) (k_I0 : KX12 I0 M0) : wq (fX12_asks_135 N I0 L0 M0 x2 x3) (fun r => KX12 r.2.1 r.2.2.2 ∧ True) := by
  unfold fX12_asks_135
  refine wq_v (fun I1 e1 => ?_)
  have l_0 := il_0
  have k1 : KX12 I1 M0 := by rw [e1]; exact KX12.si19 k_I0 ⟨by decide, by decide⟩
  have q : (I1 19).toInt = 0 := by rw [e1]; exact il_0
  exact tu_8_135 hN x2 x3 N I1 L0 M0 (0 : Int32) k1 ⟨by omega, by omega⟩ (by omega) (fun j hj => by exfalso; omega) (by omega)
set_option maxHeartbeats 4000000 in
theorem tt_fX12_fates {N : Nat} (hN : 3000000000 ≤ N) (I0 : Nat → Int32) (L0 : Int64) (M0 : Nat → Nat → Int32) (x1 : Int32) (k_I0 : KX12 I0 M0) : wq (fX12_fates N I0 L0 M0 x1) (fun r => KX12 r.2.1 r.2.2.2 ∧ True) := by
  unfold fX12_fates
  refine wq_v (fun I0_3_q60412 h_I0_3_q60412 => ?_)
  have k_I0_3_q60412 : KX12 I0_3_q60412 M0 := by rw [h_I0_3_q60412]; exact KX12.si0 k_I0
  have b_60413 := i32b x1
  have l_0 := il_0
  refine wq_eq (fun hc_60414 => ?_) (fun hc_60415 => ?_)
  · unfold fX12_fates_J15
    unfold fX12_fates_J20
    have l_1 := il_1
    refine wq_b (tt_fX12_right hN I0_3_q60412 L0 M0 (1 : Int32) (1 : Int32) ⟨by omega, by omega⟩ k_I0_3_q60412) (fun r1_q60416 h_r1_q60416 => ?_)
    obtain ⟨h_r1_q60416_0, h_r1_q60416_1, h_r1_q60416_2, h_r1_q60416_3, -⟩ := h_r1_q60416
    have t_60417 := KX12.i1 h_r1_q60416_3
    have t_60418 := KX12.i1 k_I0
    have t_60419 : (I0_3_q60412 1).toInt = (I0 1).toInt := by rw [h_I0_3_q60412]; rfl
    refine wq_eq (fun hc_60420 => ?_) (fun hc_60421 => ?_)
    · exact wq_s ⟨h_r1_q60416_3, trivial⟩
    · have l_m1 := il_m1
      refine wq_b (tt_fX12_asks_135 hN r1_q60416.2.1 r1_q60416.2.2.1 r1_q60416.2.2.2 x1 ((-1) : Int32) h_r1_q60416_3) (fun r2_q60422 h_r2_q60422 => ?_)
      obtain ⟨h_r2_q60422_0, -⟩ := h_r2_q60422
      have b_60423 := i32b r2_q60422.1
      exact wq_s ⟨h_r2_q60422_0, trivial⟩
  · have l_1 := il_1
    refine wq_eq (fun hc_60424 => ?_) (fun hc_60425 => ?_)
    · unfold fX12_fates_J15
      unfold fX12_fates_J20
      refine wq_b (tt_fX12_right hN I0_3_q60412 L0 M0 (1 : Int32) (1 : Int32) ⟨by omega, by omega⟩ k_I0_3_q60412) (fun r1_q60426 h_r1_q60426 => ?_)
      obtain ⟨h_r1_q60426_0, h_r1_q60426_1, h_r1_q60426_2, h_r1_q60426_3, -⟩ := h_r1_q60426
      have t_60427 := KX12.i1 h_r1_q60426_3
      have t_60428 := KX12.i1 k_I0
      have t_60429 : (I0_3_q60412 1).toInt = (I0 1).toInt := by rw [h_I0_3_q60412]; rfl
      refine wq_eq (fun hc_60430 => ?_) (fun hc_60431 => ?_)
      · exact wq_s ⟨h_r1_q60426_3, trivial⟩
      · have l_m1 := il_m1
        refine wq_b (tt_fX12_asks_135 hN r1_q60426.2.1 r1_q60426.2.2.1 r1_q60426.2.2.2 x1 ((-1) : Int32) h_r1_q60426_3) (fun r2_q60432 h_r2_q60432 => ?_)
        obtain ⟨h_r2_q60432_0, -⟩ := h_r2_q60432
        have b_60433 := i32b r2_q60432.1
        exact wq_s ⟨h_r2_q60432_0, trivial⟩
    · unfold fX12_fates_J20
      refine wq_b (tt_fX12_right hN I0_3_q60412 L0 M0 (0 : Int32) (1 : Int32) ⟨by omega, by omega⟩ k_I0_3_q60412) (fun r1_q60434 h_r1_q60434 => ?_)
      obtain ⟨h_r1_q60434_0, h_r1_q60434_1, h_r1_q60434_2, h_r1_q60434_3, -⟩ := h_r1_q60434
      have t_60435 := KX12.i1 h_r1_q60434_3
      have t_60436 := KX12.i1 k_I0
      have t_60437 : (I0_3_q60412 1).toInt = (I0 1).toInt := by rw [h_I0_3_q60412]; rfl
      refine wq_eq (fun hc_60438 => ?_) (fun hc_60439 => ?_)
      · exact wq_s ⟨h_r1_q60434_3, trivial⟩
      · have l_m1 := il_m1
        refine wq_b (tt_fX12_asks_135 hN r1_q60434.2.1 r1_q60434.2.2.1 r1_q60434.2.2.2 x1 ((-1) : Int32) h_r1_q60434_3) (fun r2_q60440 h_r2_q60440 => ?_)
        obtain ⟨h_r2_q60440_0, -⟩ := h_r2_q60440
        have b_60441 := i32b r2_q60440.1
        exact wq_s ⟨h_r2_q60440_0, trivial⟩

theorem tt_wrong (N : Nat) (I : Nat → Int32) (L : Int64) (M : Nat → Nat → Int32) (x : Int32) (hx : x.toInt ≠ 0) (k : KX12 I M) : wq (fX12_wrong N I L M x) (fun r => NP I M r ∧ (r.1 4).toInt ≠ 0) := by
  unfold fX12_wrong
  have l_0 := il_0
  refine wq_eq (fun hc => ?_) (fun hc => ?_)
  · refine wq_v (fun J e => ?_)
    refine wq_v (fun J2 e2 => ?_)
    subst e
    subst e2
    refine wq_s ⟨⟨rfl, ((FR.rf I).up (by omega)).up (by omega), KX12.si5 (KX12.si4 k), Or.inr hx, Int.le_refl _⟩, hx⟩
  · exact wq_s ⟨NP.rf k, by show (I 4).toInt ≠ 0; omega⟩
theorem tt_fX12_wrong {N : Nat} (hN : 3000000000 ≤ N) (I0 : Nat → Int32) (L0 : Int64) (M0 : Nat → Nat → Int32) (x1 : Int32) (k_I0 : KX12 I0 M0) : wq (fX12_wrong N I0 L0 M0 x1) (fun r => KX12 r.1 r.2.2 ∧ True) := by
  unfold fX12_wrong
  refine wq_i (fun _ => ?_) (fun _ => ?_)
  · refine wq_v (fun J e => ?_)
    refine wq_v (fun J2 e2 => ?_)
    subst e
    subst e2
    exact wq_s ⟨KX12.si5 (KX12.si4 k_I0), trivial⟩
  · exact wq_s ⟨k_I0, trivial⟩
set_option maxHeartbeats 4000000 in
theorem tt_fX12_isGood {N : Nat} (hN : 3000000000 ≤ N) (I0 : Nat → Int32) (L0 : Int64) (M0 : Nat → Nat → Int32) (k_I0 : KX12 I0 M0) : wq (fX12_isGood N I0 L0 M0) (fun r => (0 ≤ r.toInt ∧ r.toInt ≤ 1) ∧ True) := by
  unfold fX12_isGood
  have l_0 := il_0
  refine wq_eq (fun hc_24503 => ?_) (fun hc_24504 => ?_)
  · have l_1 := il_1
    exact wq_s ⟨(show 0 ≤ (1 : Int32).toInt ∧ (1 : Int32).toInt ≤ 1 from ⟨by omega, by omega⟩), trivial⟩
  · exact wq_s ⟨(show 0 ≤ (0 : Int32).toInt ∧ (0 : Int32).toInt ≤ 1 from ⟨by omega, by omega⟩), trivial⟩
theorem tt_good (N : Nat) (I : Nat → Int32) (L : Int64) (M : Nat → Nat → Int32) : wq (fX12_isGood N I L M) (fun r => (r.toInt = 0 ∧ (I 4).toInt ≠ 0) ∨ (r.toInt = 1 ∧ (I 4).toInt = 0)) := by
  unfold fX12_isGood
  have l_0 := il_0
  have l_1 := il_1
  refine wq_eq (fun hc => ?_) (fun hc => ?_)
  · exact wq_s (by omega)
  · exact wq_s (by omega)
theorem tt_need {N : Nat} (hN : 3000000000 ≤ N) (I : Nat → Int32) (L : Int64) (M : Nat → Nat → Int32) (x : Int32) (k : KX12 I M) : wq (fX12_need N I L M x) (fun r => NP I M r ∧ ((r.1 4).toInt ≠ 0 ∨ (x.toInt ≠ 0 ∧ ((r.1 8).toInt = 0 ∨ (I 7).toInt < (r.1 7).toInt)))) := by
  unfold fX12_need
  have l_0 := il_0
  refine wq_b (tt_good N I L M) (fun r1 h1 => ?_)
  refine wq_eq (fun hc => ?_) (fun hc => ?_)
  · exact wq_s ⟨NP.rf k, Or.inl (by show (I 4).toInt ≠ 0; omega)⟩
  · refine wq_eq (fun hc2 => ?_) (fun hc2 => ?_)
    · refine wq_b (tt_wrong N I L M 1 (by decide) k) (fun r2 h2 => ?_)
      exact wq_s ⟨h2.1, Or.inl h2.2⟩
    · refine wq_b (tt_steps hN I L M k) (fun r3 h3 => ?_)
      exact wq_s ⟨NP.of h3, Or.inr ⟨by omega, h3.2.2.2.2.2.2⟩⟩
theorem tt_fX12_need {N : Nat} (hN : 3000000000 ≤ N) (I0 : Nat → Int32) (L0 : Int64) (M0 : Nat → Nat → Int32) (x1 : Int32) (k_I0 : KX12 I0 M0) : wq (fX12_need N I0 L0 M0 x1) (fun r => KX12 r.1 r.2.2 ∧ True) := wq_w (tt_need hN I0 L0 M0 x1 k_I0) (fun r h => by rw [h.1.1]; exact ⟨h.1.2.2.1, trivial⟩)
theorem tt_num55 {N : Nat} (hN : 3000000000 ≤ N) (I0 I : Nat → Int32) (L : Int64) (M : Nat → Nat → Int32) (x1 x2 : Int32) (P : Int32 → Prop) (h : NP I0 M (I, L, M)) (hp : (I 4).toInt ≠ 0 ∨ P (I 11)) : wq (fX12_number_J55 N x1 x2 I L M) (fun r => NP I0 M r.2 ∧ ((r.2.1 4).toInt ≠ 0 ∨ P r.1)) := by
  unfold fX12_number_J55
  have l_0 := il_0
  refine wq_v (fun v e => ?_)
  subst e
  refine wq_b (tt_good N I L M) (fun r1 h1 => ?_)
  refine wq_eq (fun hc => ?_) (fun hc => ?_)
  · exact wq_s ⟨h, hp⟩
  · refine wq_b (tt_steps hN I L M h.2.2.1) (fun r3 h3 => ?_)
    refine wq_s ⟨NP.tr h (NP.of h3), ?_⟩
    rcases hp with q | q
    · exact absurd q (by omega)
    · exact Or.inr q
theorem tt_number {N : Nat} (hN : 3000000000 ≤ N) (I : Nat → Int32) (L : Int64) (M : Nat → Nat → Int32) (x1 x2 : Int32) (k : KX12 I M) : wq (fX12_number N I L M x1 x2) (fun r => NP I M r.2 ∧ ((r.2.1 4).toInt ≠ 0 ∨ (r.1 = I 11 ∧ x1.toInt ≤ r.1.toInt ∧ r.1.toInt ≤ x2.toInt ∧ (I 8).toInt = 2 ∧ (I 10).toInt ≤ 7))) := by
  unfold fX12_number
  have l_0 := il_0
  have l_2 := il_2
  have l_7 := il_7
  have h50 : wq (fX12_number_J50 N x1 x2 I L M) (fun r => NP I M r.2 ∧ ((r.2.1 4).toInt ≠ 0 ∨ (r.1 = I 11 ∧ x1.toInt ≤ r.1.toInt ∧ r.1.toInt ≤ x2.toInt ∧ (I 8).toInt = 2 ∧ (I 10).toInt ≤ 7))) := by
    unfold fX12_number_J50
    refine wq_b (tt_wrong N I L M 2 (by decide) k) (fun r4 h4 => ?_)
    obtain ⟨h4, g4⟩ := h4
    have e : r4.2.2 = M := h4.1
    rw [e]
    refine tt_num55 hN I r4.1 r4.2.1 M x1 x2 (fun v => v = I 11 ∧ x1.toInt ≤ v.toInt ∧ v.toInt ≤ x2.toInt ∧ (I 8).toInt = 2 ∧ (I 10).toInt ≤ 7) ⟨rfl, h4.2.1, h4.2.2.1, h4.2.2.2⟩ (Or.inl g4)
  refine wq_b (tt_good N I L M) (fun r5 h5 => ?_)
  refine wq_eq (fun hc => ?_) (fun hc => ?_)
  · exact wq_s ⟨NP.rf k, Or.inl (by show (I 4).toInt ≠ 0; omega)⟩
  · refine wq_eq (fun h8 => ?_) (fun h8 => ?_)
    · refine wq_lt (fun h10 => h50) (fun h10 => ?_)
      refine wq_lt (fun h11 => h50) (fun h11 => ?_)
      refine wq_le (fun h12 => ?_) (fun h12 => h50)
      exact tt_num55 hN I I L M x1 x2 (fun v => v = I 11 ∧ x1.toInt ≤ v.toInt ∧ v.toInt ≤ x2.toInt ∧ (I 8).toInt = 2 ∧ (I 10).toInt ≤ 7) (NP.rf k) (Or.inr ⟨rfl, by omega, by omega, by omega, by omega⟩)
    · refine wq_b (tt_wrong N I L M 1 (by decide) k) (fun r6 h6 => ?_)
      obtain ⟨h6, g6⟩ := h6
      have e : r6.2.2 = M := h6.1
      rw [e]
      exact tt_num55 hN I r6.1 r6.2.1 M x1 x2 (fun v => v = I 11 ∧ x1.toInt ≤ v.toInt ∧ v.toInt ≤ x2.toInt ∧ (I 8).toInt = 2 ∧ (I 10).toInt ≤ 7) ⟨rfl, h6.2.1, h6.2.2.1, h6.2.2.2⟩ (Or.inl g6)
theorem tt_fX12_number {N : Nat} (hN : 3000000000 ≤ N) (I0 : Nat → Int32) (L0 : Int64) (M0 : Nat → Nat → Int32) (x1 : Int32) (x2 : Int32) (k_I0 : KX12 I0 M0) : wq (fX12_number N I0 L0 M0 x1 x2) (fun r => KX12 r.2.1 r.2.2.2 ∧ True) := wq_w (tt_number hN I0 L0 M0 x1 x2 k_I0) (fun r h => by have e : r.2.2.2 = M0 := h.1.1; rw [e]; exact ⟨h.1.2.2.1, trivial⟩)
/-- a line is read: a fault stays, the place does not go back -/
def RP (I : Nat → Int32) (r : (Nat → Int32) × Int64 × (Nat → Nat → Int32)) : Prop := KX12 r.1 r.2.2 ∧ ((I 4).toInt = 0 ∨ (r.1 4).toInt ≠ 0) ∧ (I 7).toInt ≤ (r.1 7).toInt
theorem RP.of {I : Nat → Int32} {M : Nat → Nat → Int32} {r : (Nat → Int32) × Int64 × (Nat → Nat → Int32)} (h : NP I M r) : RP I r := ⟨by rw [h.1]; exact h.2.2.1, h.2.2.2.1, h.2.2.2.2⟩
theorem RP.tr {I : Nat → Int32} {M : Nat → Nat → Int32} {r q : (Nat → Int32) × Int64 × (Nat → Nat → Int32)} (h : NP I M r) (g : RP r.1 q) : RP I q := ⟨g.1, by have a := h.2.2.2.1; have b := g.2.1; omega, by have a := h.2.2.2.2; have b := g.2.2; omega⟩
theorem RP.go {I J : Nat → Int32} {q : (Nat → Int32) × Int64 × (Nat → Nat → Int32)} (a : (I 4).toInt = 0 ∨ (J 4).toInt ≠ 0) (b : (I 7).toInt ≤ (J 7).toInt) (g : RP J q) : RP I q := ⟨g.1, by have c := g.2.1; omega, by have c := g.2.2; omega⟩
theorem tt_named {N : Nat} (hN : 3000000000 ≤ N) (I : Nat → Int32) (L : Int64) (M : Nat → Nat → Int32) (x1 x2 x3 : Int32) (k : KX12 I M) : wq (fX12_named N I L M x1 x2 x3) (fun r => NP I M r.2 ∧ ((r.2.1 4).toInt ≠ 0 ∨ (x2.toInt ≤ r.1.toInt ∧ r.1.toInt ≤ x3.toInt))) := by
  unfold fX12_named
  have hb : ∀ z : Int32, wq ((fX12_need N I L M z).bind fun r4 => (fX12_number N r4.1 r4.2.1 r4.2.2 x2 x3).bind fun r5 => some (r5.1, r5.2.1, r5.2.2.1, r5.2.2.2)) (fun r => NP I M r.2 ∧ ((r.2.1 4).toInt ≠ 0 ∨ (x2.toInt ≤ r.1.toInt ∧ r.1.toInt ≤ x3.toInt))) := by
    intro z
    refine wq_b (tt_need hN I L M z k) (fun r4 h4 => ?_)
    obtain ⟨h4, -⟩ := h4
    have e : r4.2.2 = M := h4.1
    rw [e]
    refine wq_b (tt_number hN r4.1 r4.2.1 M x2 x3 h4.2.2.1) (fun r5 h5 => ?_)
    obtain ⟨h5, g5⟩ := h5
    refine wq_s ⟨NP.tr h4 h5, ?_⟩
    rcases g5 with q | q
    · exact Or.inl q
    · exact Or.inr ⟨q.2.1, q.2.2.1⟩
  refine wq_b (tt_fX12_knownWord hN I L M k) (fun r1 h1 => ?_)
  exact wq_i (fun _ => hb 1) (fun _ => hb 0)
theorem tt_fX12_named {N : Nat} (hN : 3000000000 ≤ N) (I0 : Nat → Int32) (L0 : Int64) (M0 : Nat → Nat → Int32) (x1 : Int32) (x2 : Int32) (x3 : Int32) (k_I0 : KX12 I0 M0) : wq (fX12_named N I0 L0 M0 x1 x2 x3) (fun r => KX12 r.2.1 r.2.2.2 ∧ True) := wq_w (tt_named hN I0 L0 M0 x1 x2 x3 k_I0) (fun r h => by have e : r.2.2.2 = M0 := h.1.1; rw [e]; exact ⟨h.1.2.2.1, trivial⟩)
set_option maxHeartbeats 4000000 in
theorem tt_fX12_begins {N : Nat} (hN : 3000000000 ≤ N) (I0 : Nat → Int32) (L0 : Int64) (M0 : Nat → Nat → Int32) (x1 : Int32) (k_I0 : KX12 I0 M0) : wq (fX12_begins N I0 L0 M0 x1) (fun r => (0 ≤ r.1.toInt ∧ r.1.toInt ≤ 1) ∧ KX12 r.2.1 r.2.2.2 ∧ True) := by
  unfold fX12_begins
  have b_25225 := i32b x1
  have l_0 := il_0
  refine wq_lt (fun hc_25226 => ?_) (fun hc_25227 => ?_)
  · unfold fX12_begins_J17
    unfold fX12_begins_J18
    refine wq_eq (fun hc_25228 => ?_) (fun hc_25229 => ?_)
    · have t_25230 := KX12.i12 k_I0
      refine wq_eq (fun hc_25231 => ?_) (fun hc_25232 => ?_)
      · unfold fX12_begins_J36
        unfold fX12_begins_J37
        have l_1 := il_1
        refine wq_b (tt_fX12_right hN I0 L0 M0 (0 : Int32) (1 : Int32) ⟨by omega, by omega⟩ k_I0) (fun r1_q25233 h_r1_q25233 => ?_)
        obtain ⟨h_r1_q25233_0, h_r1_q25233_1, h_r1_q25233_2, h_r1_q25233_3, -⟩ := h_r1_q25233
        have t_25234 := KX12.i1 h_r1_q25233_3
        have t_25235 := KX12.i1 k_I0
        refine wq_eq (fun hc_25236 => ?_) (fun hc_25237 => ?_)
        · exact wq_s ⟨(show 0 ≤ (0 : Int32).toInt ∧ (0 : Int32).toInt ≤ 1 from ⟨by omega, by omega⟩), h_r1_q25233_3, trivial⟩
        · refine wq_v (fun I0_2_q25238 h_I0_2_q25238 => ?_)
          have k_I0_2_q25238 : KX12 I0_2_q25238 r1_q25233.2.2.2 := by rw [h_I0_2_q25238]; exact KX12.si3 h_r1_q25233_3 ⟨by omega, by omega⟩
          refine wq_v (fun I0_3_q25239 h_I0_3_q25239 => ?_)
          have k_I0_3_q25239 : KX12 I0_3_q25239 r1_q25233.2.2.2 := by rw [h_I0_3_q25239]; exact KX12.si5 k_I0_2_q25238
          refine wq_v (fun I0_4_q25240 h_I0_4_q25240 => ?_)
          have k_I0_4_q25240 : KX12 I0_4_q25240 r1_q25233.2.2.2 := by rw [h_I0_4_q25240]; exact KX12.si4 k_I0_3_q25239
          refine wq_v (fun I0_5_q25241 h_I0_5_q25241 => ?_)
          have k_I0_5_q25241 : KX12 I0_5_q25241 r1_q25233.2.2.2 := by rw [h_I0_5_q25241]; exact KX12.si6 k_I0_4_q25240 ⟨by omega, by omega⟩
          refine wq_v (fun I0_6_q25242 h_I0_6_q25242 => ?_)
          have k_I0_6_q25242 : KX12 I0_6_q25242 r1_q25233.2.2.2 := by rw [h_I0_6_q25242]; exact KX12.si7 k_I0_5_q25241 ⟨by omega, by omega⟩
          refine wq_b (tt_fX12_steps hN I0_6_q25242 r1_q25233.2.2.1 r1_q25233.2.2.2 k_I0_6_q25242) (fun r7_q25243 h_r7_q25243 => ?_)
          obtain ⟨h_r7_q25243_0, -⟩ := h_r7_q25243
          exact wq_s ⟨(show 0 ≤ (1 : Int32).toInt ∧ (1 : Int32).toInt ≤ 1 from ⟨by omega, by omega⟩), h_r7_q25243_0, trivial⟩
      · unfold fX12_begins_J37
        have l_2 := il_2
        refine wq_b (tt_fX12_right hN I0 L0 M0 (0 : Int32) (2 : Int32) ⟨by omega, by omega⟩ k_I0) (fun r1_q25244 h_r1_q25244 => ?_)
        obtain ⟨h_r1_q25244_0, h_r1_q25244_1, h_r1_q25244_2, h_r1_q25244_3, -⟩ := h_r1_q25244
        have t_25245 := KX12.i1 h_r1_q25244_3
        have t_25246 := KX12.i1 k_I0
        refine wq_eq (fun hc_25247 => ?_) (fun hc_25248 => ?_)
        · exact wq_s ⟨(show 0 ≤ (0 : Int32).toInt ∧ (0 : Int32).toInt ≤ 1 from ⟨by omega, by omega⟩), h_r1_q25244_3, trivial⟩
        · refine wq_v (fun I0_2_q25249 h_I0_2_q25249 => ?_)
          have k_I0_2_q25249 : KX12 I0_2_q25249 r1_q25244.2.2.2 := by rw [h_I0_2_q25249]; exact KX12.si3 h_r1_q25244_3 ⟨by omega, by omega⟩
          refine wq_v (fun I0_3_q25250 h_I0_3_q25250 => ?_)
          have k_I0_3_q25250 : KX12 I0_3_q25250 r1_q25244.2.2.2 := by rw [h_I0_3_q25250]; exact KX12.si5 k_I0_2_q25249
          refine wq_v (fun I0_4_q25251 h_I0_4_q25251 => ?_)
          have k_I0_4_q25251 : KX12 I0_4_q25251 r1_q25244.2.2.2 := by rw [h_I0_4_q25251]; exact KX12.si4 k_I0_3_q25250
          refine wq_v (fun I0_5_q25252 h_I0_5_q25252 => ?_)
          have k_I0_5_q25252 : KX12 I0_5_q25252 r1_q25244.2.2.2 := by rw [h_I0_5_q25252]; exact KX12.si6 k_I0_4_q25251 ⟨by omega, by omega⟩
          refine wq_v (fun I0_6_q25253 h_I0_6_q25253 => ?_)
          have k_I0_6_q25253 : KX12 I0_6_q25253 r1_q25244.2.2.2 := by rw [h_I0_6_q25253]; exact KX12.si7 k_I0_5_q25252 ⟨by omega, by omega⟩
          refine wq_b (tt_fX12_steps hN I0_6_q25253 r1_q25244.2.2.1 r1_q25244.2.2.2 k_I0_6_q25253) (fun r7_q25254 h_r7_q25254 => ?_)
          obtain ⟨h_r7_q25254_0, -⟩ := h_r7_q25254
          have l_1 := il_1
          exact wq_s ⟨(show 0 ≤ (1 : Int32).toInt ∧ (1 : Int32).toInt ≤ 1 from ⟨by omega, by omega⟩), h_r7_q25254_0, trivial⟩
    · unfold fX12_begins_J36
      unfold fX12_begins_J37
      have l_1 := il_1
      refine wq_b (tt_fX12_right hN I0 L0 M0 (0 : Int32) (1 : Int32) ⟨by omega, by omega⟩ k_I0) (fun r1_q25255 h_r1_q25255 => ?_)
      obtain ⟨h_r1_q25255_0, h_r1_q25255_1, h_r1_q25255_2, h_r1_q25255_3, -⟩ := h_r1_q25255
      have t_25256 := KX12.i1 h_r1_q25255_3
      have t_25257 := KX12.i1 k_I0
      refine wq_eq (fun hc_25258 => ?_) (fun hc_25259 => ?_)
      · exact wq_s ⟨(show 0 ≤ (0 : Int32).toInt ∧ (0 : Int32).toInt ≤ 1 from ⟨by omega, by omega⟩), h_r1_q25255_3, trivial⟩
      · refine wq_v (fun I0_2_q25260 h_I0_2_q25260 => ?_)
        have k_I0_2_q25260 : KX12 I0_2_q25260 r1_q25255.2.2.2 := by rw [h_I0_2_q25260]; exact KX12.si3 h_r1_q25255_3 ⟨by omega, by omega⟩
        refine wq_v (fun I0_3_q25261 h_I0_3_q25261 => ?_)
        have k_I0_3_q25261 : KX12 I0_3_q25261 r1_q25255.2.2.2 := by rw [h_I0_3_q25261]; exact KX12.si5 k_I0_2_q25260
        refine wq_v (fun I0_4_q25262 h_I0_4_q25262 => ?_)
        have k_I0_4_q25262 : KX12 I0_4_q25262 r1_q25255.2.2.2 := by rw [h_I0_4_q25262]; exact KX12.si4 k_I0_3_q25261
        refine wq_v (fun I0_5_q25263 h_I0_5_q25263 => ?_)
        have k_I0_5_q25263 : KX12 I0_5_q25263 r1_q25255.2.2.2 := by rw [h_I0_5_q25263]; exact KX12.si6 k_I0_4_q25262 ⟨by omega, by omega⟩
        refine wq_v (fun I0_6_q25264 h_I0_6_q25264 => ?_)
        have k_I0_6_q25264 : KX12 I0_6_q25264 r1_q25255.2.2.2 := by rw [h_I0_6_q25264]; exact KX12.si7 k_I0_5_q25263 ⟨by omega, by omega⟩
        refine wq_b (tt_fX12_steps hN I0_6_q25264 r1_q25255.2.2.1 r1_q25255.2.2.2 k_I0_6_q25264) (fun r7_q25265 h_r7_q25265 => ?_)
        obtain ⟨h_r7_q25265_0, -⟩ := h_r7_q25265
        exact wq_s ⟨(show 0 ≤ (1 : Int32).toInt ∧ (1 : Int32).toInt ≤ 1 from ⟨by omega, by omega⟩), h_r7_q25265_0, trivial⟩
  · have t_25266 := KX12.i3 k_I0
    refine wq_lt (fun hc_25267 => ?_) (fun hc_25268 => ?_)
    · unfold fX12_begins_J17
      unfold fX12_begins_J18
      refine wq_eq (fun hc_25269 => ?_) (fun hc_25270 => ?_)
      · have t_25271 := KX12.i12 k_I0
        refine wq_eq (fun hc_25272 => ?_) (fun hc_25273 => ?_)
        · unfold fX12_begins_J36
          unfold fX12_begins_J37
          have l_1 := il_1
          refine wq_b (tt_fX12_right hN I0 L0 M0 (0 : Int32) (1 : Int32) ⟨by omega, by omega⟩ k_I0) (fun r1_q25274 h_r1_q25274 => ?_)
          obtain ⟨h_r1_q25274_0, h_r1_q25274_1, h_r1_q25274_2, h_r1_q25274_3, -⟩ := h_r1_q25274
          have t_25275 := KX12.i1 h_r1_q25274_3
          have t_25276 := KX12.i1 k_I0
          refine wq_eq (fun hc_25277 => ?_) (fun hc_25278 => ?_)
          · exact wq_s ⟨(show 0 ≤ (0 : Int32).toInt ∧ (0 : Int32).toInt ≤ 1 from ⟨by omega, by omega⟩), h_r1_q25274_3, trivial⟩
          · refine wq_v (fun I0_2_q25279 h_I0_2_q25279 => ?_)
            have k_I0_2_q25279 : KX12 I0_2_q25279 r1_q25274.2.2.2 := by rw [h_I0_2_q25279]; exact KX12.si3 h_r1_q25274_3 ⟨by omega, by omega⟩
            refine wq_v (fun I0_3_q25280 h_I0_3_q25280 => ?_)
            have k_I0_3_q25280 : KX12 I0_3_q25280 r1_q25274.2.2.2 := by rw [h_I0_3_q25280]; exact KX12.si5 k_I0_2_q25279
            refine wq_v (fun I0_4_q25281 h_I0_4_q25281 => ?_)
            have k_I0_4_q25281 : KX12 I0_4_q25281 r1_q25274.2.2.2 := by rw [h_I0_4_q25281]; exact KX12.si4 k_I0_3_q25280
            refine wq_v (fun I0_5_q25282 h_I0_5_q25282 => ?_)
            have k_I0_5_q25282 : KX12 I0_5_q25282 r1_q25274.2.2.2 := by rw [h_I0_5_q25282]; exact KX12.si6 k_I0_4_q25281 ⟨by omega, by omega⟩
            refine wq_v (fun I0_6_q25283 h_I0_6_q25283 => ?_)
            have k_I0_6_q25283 : KX12 I0_6_q25283 r1_q25274.2.2.2 := by rw [h_I0_6_q25283]; exact KX12.si7 k_I0_5_q25282 ⟨by omega, by omega⟩
            refine wq_b (tt_fX12_steps hN I0_6_q25283 r1_q25274.2.2.1 r1_q25274.2.2.2 k_I0_6_q25283) (fun r7_q25284 h_r7_q25284 => ?_)
            obtain ⟨h_r7_q25284_0, -⟩ := h_r7_q25284
            exact wq_s ⟨(show 0 ≤ (1 : Int32).toInt ∧ (1 : Int32).toInt ≤ 1 from ⟨by omega, by omega⟩), h_r7_q25284_0, trivial⟩
        · unfold fX12_begins_J37
          have l_2 := il_2
          refine wq_b (tt_fX12_right hN I0 L0 M0 (0 : Int32) (2 : Int32) ⟨by omega, by omega⟩ k_I0) (fun r1_q25285 h_r1_q25285 => ?_)
          obtain ⟨h_r1_q25285_0, h_r1_q25285_1, h_r1_q25285_2, h_r1_q25285_3, -⟩ := h_r1_q25285
          have t_25286 := KX12.i1 h_r1_q25285_3
          have t_25287 := KX12.i1 k_I0
          refine wq_eq (fun hc_25288 => ?_) (fun hc_25289 => ?_)
          · exact wq_s ⟨(show 0 ≤ (0 : Int32).toInt ∧ (0 : Int32).toInt ≤ 1 from ⟨by omega, by omega⟩), h_r1_q25285_3, trivial⟩
          · refine wq_v (fun I0_2_q25290 h_I0_2_q25290 => ?_)
            have k_I0_2_q25290 : KX12 I0_2_q25290 r1_q25285.2.2.2 := by rw [h_I0_2_q25290]; exact KX12.si3 h_r1_q25285_3 ⟨by omega, by omega⟩
            refine wq_v (fun I0_3_q25291 h_I0_3_q25291 => ?_)
            have k_I0_3_q25291 : KX12 I0_3_q25291 r1_q25285.2.2.2 := by rw [h_I0_3_q25291]; exact KX12.si5 k_I0_2_q25290
            refine wq_v (fun I0_4_q25292 h_I0_4_q25292 => ?_)
            have k_I0_4_q25292 : KX12 I0_4_q25292 r1_q25285.2.2.2 := by rw [h_I0_4_q25292]; exact KX12.si4 k_I0_3_q25291
            refine wq_v (fun I0_5_q25293 h_I0_5_q25293 => ?_)
            have k_I0_5_q25293 : KX12 I0_5_q25293 r1_q25285.2.2.2 := by rw [h_I0_5_q25293]; exact KX12.si6 k_I0_4_q25292 ⟨by omega, by omega⟩
            refine wq_v (fun I0_6_q25294 h_I0_6_q25294 => ?_)
            have k_I0_6_q25294 : KX12 I0_6_q25294 r1_q25285.2.2.2 := by rw [h_I0_6_q25294]; exact KX12.si7 k_I0_5_q25293 ⟨by omega, by omega⟩
            refine wq_b (tt_fX12_steps hN I0_6_q25294 r1_q25285.2.2.1 r1_q25285.2.2.2 k_I0_6_q25294) (fun r7_q25295 h_r7_q25295 => ?_)
            obtain ⟨h_r7_q25295_0, -⟩ := h_r7_q25295
            have l_1 := il_1
            exact wq_s ⟨(show 0 ≤ (1 : Int32).toInt ∧ (1 : Int32).toInt ≤ 1 from ⟨by omega, by omega⟩), h_r7_q25295_0, trivial⟩
      · unfold fX12_begins_J36
        unfold fX12_begins_J37
        have l_1 := il_1
        refine wq_b (tt_fX12_right hN I0 L0 M0 (0 : Int32) (1 : Int32) ⟨by omega, by omega⟩ k_I0) (fun r1_q25296 h_r1_q25296 => ?_)
        obtain ⟨h_r1_q25296_0, h_r1_q25296_1, h_r1_q25296_2, h_r1_q25296_3, -⟩ := h_r1_q25296
        have t_25297 := KX12.i1 h_r1_q25296_3
        have t_25298 := KX12.i1 k_I0
        refine wq_eq (fun hc_25299 => ?_) (fun hc_25300 => ?_)
        · exact wq_s ⟨(show 0 ≤ (0 : Int32).toInt ∧ (0 : Int32).toInt ≤ 1 from ⟨by omega, by omega⟩), h_r1_q25296_3, trivial⟩
        · refine wq_v (fun I0_2_q25301 h_I0_2_q25301 => ?_)
          have k_I0_2_q25301 : KX12 I0_2_q25301 r1_q25296.2.2.2 := by rw [h_I0_2_q25301]; exact KX12.si3 h_r1_q25296_3 ⟨by omega, by omega⟩
          refine wq_v (fun I0_3_q25302 h_I0_3_q25302 => ?_)
          have k_I0_3_q25302 : KX12 I0_3_q25302 r1_q25296.2.2.2 := by rw [h_I0_3_q25302]; exact KX12.si5 k_I0_2_q25301
          refine wq_v (fun I0_4_q25303 h_I0_4_q25303 => ?_)
          have k_I0_4_q25303 : KX12 I0_4_q25303 r1_q25296.2.2.2 := by rw [h_I0_4_q25303]; exact KX12.si4 k_I0_3_q25302
          refine wq_v (fun I0_5_q25304 h_I0_5_q25304 => ?_)
          have k_I0_5_q25304 : KX12 I0_5_q25304 r1_q25296.2.2.2 := by rw [h_I0_5_q25304]; exact KX12.si6 k_I0_4_q25303 ⟨by omega, by omega⟩
          refine wq_v (fun I0_6_q25305 h_I0_6_q25305 => ?_)
          have k_I0_6_q25305 : KX12 I0_6_q25305 r1_q25296.2.2.2 := by rw [h_I0_6_q25305]; exact KX12.si7 k_I0_5_q25304 ⟨by omega, by omega⟩
          refine wq_b (tt_fX12_steps hN I0_6_q25305 r1_q25296.2.2.1 r1_q25296.2.2.2 k_I0_6_q25305) (fun r7_q25306 h_r7_q25306 => ?_)
          obtain ⟨h_r7_q25306_0, -⟩ := h_r7_q25306
          exact wq_s ⟨(show 0 ≤ (1 : Int32).toInt ∧ (1 : Int32).toInt ≤ 1 from ⟨by omega, by omega⟩), h_r7_q25306_0, trivial⟩
    · unfold fX12_begins_J18
      refine wq_eq (fun hc_25307 => ?_) (fun hc_25308 => ?_)
      · have t_25309 := KX12.i12 k_I0
        refine wq_eq (fun hc_25310 => ?_) (fun hc_25311 => ?_)
        · unfold fX12_begins_J36
          unfold fX12_begins_J37
          have l_1 := il_1
          refine wq_b (tt_fX12_right hN I0 L0 M0 (1 : Int32) (1 : Int32) ⟨by omega, by omega⟩ k_I0) (fun r1_q25312 h_r1_q25312 => ?_)
          obtain ⟨h_r1_q25312_0, h_r1_q25312_1, h_r1_q25312_2, h_r1_q25312_3, -⟩ := h_r1_q25312
          have t_25313 := KX12.i1 h_r1_q25312_3
          have t_25314 := KX12.i1 k_I0
          refine wq_eq (fun hc_25315 => ?_) (fun hc_25316 => ?_)
          · exact wq_s ⟨(show 0 ≤ (0 : Int32).toInt ∧ (0 : Int32).toInt ≤ 1 from ⟨by omega, by omega⟩), h_r1_q25312_3, trivial⟩
          · refine wq_v (fun I0_2_q25317 h_I0_2_q25317 => ?_)
            have k_I0_2_q25317 : KX12 I0_2_q25317 r1_q25312.2.2.2 := by rw [h_I0_2_q25317]; exact KX12.si3 h_r1_q25312_3 ⟨by omega, by omega⟩
            refine wq_v (fun I0_3_q25318 h_I0_3_q25318 => ?_)
            have k_I0_3_q25318 : KX12 I0_3_q25318 r1_q25312.2.2.2 := by rw [h_I0_3_q25318]; exact KX12.si5 k_I0_2_q25317
            refine wq_v (fun I0_4_q25319 h_I0_4_q25319 => ?_)
            have k_I0_4_q25319 : KX12 I0_4_q25319 r1_q25312.2.2.2 := by rw [h_I0_4_q25319]; exact KX12.si4 k_I0_3_q25318
            refine wq_v (fun I0_5_q25320 h_I0_5_q25320 => ?_)
            have k_I0_5_q25320 : KX12 I0_5_q25320 r1_q25312.2.2.2 := by rw [h_I0_5_q25320]; exact KX12.si6 k_I0_4_q25319 ⟨by omega, by omega⟩
            refine wq_v (fun I0_6_q25321 h_I0_6_q25321 => ?_)
            have k_I0_6_q25321 : KX12 I0_6_q25321 r1_q25312.2.2.2 := by rw [h_I0_6_q25321]; exact KX12.si7 k_I0_5_q25320 ⟨by omega, by omega⟩
            refine wq_b (tt_fX12_steps hN I0_6_q25321 r1_q25312.2.2.1 r1_q25312.2.2.2 k_I0_6_q25321) (fun r7_q25322 h_r7_q25322 => ?_)
            obtain ⟨h_r7_q25322_0, -⟩ := h_r7_q25322
            exact wq_s ⟨(show 0 ≤ (1 : Int32).toInt ∧ (1 : Int32).toInt ≤ 1 from ⟨by omega, by omega⟩), h_r7_q25322_0, trivial⟩
        · unfold fX12_begins_J37
          have l_1 := il_1
          have l_2 := il_2
          refine wq_b (tt_fX12_right hN I0 L0 M0 (1 : Int32) (2 : Int32) ⟨by omega, by omega⟩ k_I0) (fun r1_q25323 h_r1_q25323 => ?_)
          obtain ⟨h_r1_q25323_0, h_r1_q25323_1, h_r1_q25323_2, h_r1_q25323_3, -⟩ := h_r1_q25323
          have t_25324 := KX12.i1 h_r1_q25323_3
          have t_25325 := KX12.i1 k_I0
          refine wq_eq (fun hc_25326 => ?_) (fun hc_25327 => ?_)
          · exact wq_s ⟨(show 0 ≤ (0 : Int32).toInt ∧ (0 : Int32).toInt ≤ 1 from ⟨by omega, by omega⟩), h_r1_q25323_3, trivial⟩
          · refine wq_v (fun I0_2_q25328 h_I0_2_q25328 => ?_)
            have k_I0_2_q25328 : KX12 I0_2_q25328 r1_q25323.2.2.2 := by rw [h_I0_2_q25328]; exact KX12.si3 h_r1_q25323_3 ⟨by omega, by omega⟩
            refine wq_v (fun I0_3_q25329 h_I0_3_q25329 => ?_)
            have k_I0_3_q25329 : KX12 I0_3_q25329 r1_q25323.2.2.2 := by rw [h_I0_3_q25329]; exact KX12.si5 k_I0_2_q25328
            refine wq_v (fun I0_4_q25330 h_I0_4_q25330 => ?_)
            have k_I0_4_q25330 : KX12 I0_4_q25330 r1_q25323.2.2.2 := by rw [h_I0_4_q25330]; exact KX12.si4 k_I0_3_q25329
            refine wq_v (fun I0_5_q25331 h_I0_5_q25331 => ?_)
            have k_I0_5_q25331 : KX12 I0_5_q25331 r1_q25323.2.2.2 := by rw [h_I0_5_q25331]; exact KX12.si6 k_I0_4_q25330 ⟨by omega, by omega⟩
            refine wq_v (fun I0_6_q25332 h_I0_6_q25332 => ?_)
            have k_I0_6_q25332 : KX12 I0_6_q25332 r1_q25323.2.2.2 := by rw [h_I0_6_q25332]; exact KX12.si7 k_I0_5_q25331 ⟨by omega, by omega⟩
            refine wq_b (tt_fX12_steps hN I0_6_q25332 r1_q25323.2.2.1 r1_q25323.2.2.2 k_I0_6_q25332) (fun r7_q25333 h_r7_q25333 => ?_)
            obtain ⟨h_r7_q25333_0, -⟩ := h_r7_q25333
            exact wq_s ⟨(show 0 ≤ (1 : Int32).toInt ∧ (1 : Int32).toInt ≤ 1 from ⟨by omega, by omega⟩), h_r7_q25333_0, trivial⟩
      · unfold fX12_begins_J36
        unfold fX12_begins_J37
        have l_1 := il_1
        refine wq_b (tt_fX12_right hN I0 L0 M0 (1 : Int32) (1 : Int32) ⟨by omega, by omega⟩ k_I0) (fun r1_q25334 h_r1_q25334 => ?_)
        obtain ⟨h_r1_q25334_0, h_r1_q25334_1, h_r1_q25334_2, h_r1_q25334_3, -⟩ := h_r1_q25334
        have t_25335 := KX12.i1 h_r1_q25334_3
        have t_25336 := KX12.i1 k_I0
        refine wq_eq (fun hc_25337 => ?_) (fun hc_25338 => ?_)
        · exact wq_s ⟨(show 0 ≤ (0 : Int32).toInt ∧ (0 : Int32).toInt ≤ 1 from ⟨by omega, by omega⟩), h_r1_q25334_3, trivial⟩
        · refine wq_v (fun I0_2_q25339 h_I0_2_q25339 => ?_)
          have k_I0_2_q25339 : KX12 I0_2_q25339 r1_q25334.2.2.2 := by rw [h_I0_2_q25339]; exact KX12.si3 h_r1_q25334_3 ⟨by omega, by omega⟩
          refine wq_v (fun I0_3_q25340 h_I0_3_q25340 => ?_)
          have k_I0_3_q25340 : KX12 I0_3_q25340 r1_q25334.2.2.2 := by rw [h_I0_3_q25340]; exact KX12.si5 k_I0_2_q25339
          refine wq_v (fun I0_4_q25341 h_I0_4_q25341 => ?_)
          have k_I0_4_q25341 : KX12 I0_4_q25341 r1_q25334.2.2.2 := by rw [h_I0_4_q25341]; exact KX12.si4 k_I0_3_q25340
          refine wq_v (fun I0_5_q25342 h_I0_5_q25342 => ?_)
          have k_I0_5_q25342 : KX12 I0_5_q25342 r1_q25334.2.2.2 := by rw [h_I0_5_q25342]; exact KX12.si6 k_I0_4_q25341 ⟨by omega, by omega⟩
          refine wq_v (fun I0_6_q25343 h_I0_6_q25343 => ?_)
          have k_I0_6_q25343 : KX12 I0_6_q25343 r1_q25334.2.2.2 := by rw [h_I0_6_q25343]; exact KX12.si7 k_I0_5_q25342 ⟨by omega, by omega⟩
          refine wq_b (tt_fX12_steps hN I0_6_q25343 r1_q25334.2.2.1 r1_q25334.2.2.2 k_I0_6_q25343) (fun r7_q25344 h_r7_q25344 => ?_)
          obtain ⟨h_r7_q25344_0, -⟩ := h_r7_q25344
          exact wq_s ⟨(show 0 ≤ (1 : Int32).toInt ∧ (1 : Int32).toInt ≤ 1 from ⟨by omega, by omega⟩), h_r7_q25344_0, trivial⟩
theorem tt_rs102 (N : Nat) (I : Nat → Int32) (L : Int64) (M : Nat → Nat → Int32) (y1 y2 y3 y4 y5 y6 : Int32) (k : KX12 I M) (h : (I 4).toInt ≠ 0 ∨ ((0 ≤ y1.toInt ∧ y1.toInt ≤ 3) ∧ (0 ≤ y2.toInt ∧ y2.toInt ≤ 6) ∧ (1 ≤ y6.toInt ∧ y6.toInt ≤ 1000000))) : wq (fX12_readsSet_J102 N I L M y1 y2 y3 y4 y5 y6) (RP I) := by
  unfold fX12_readsSet_J102
  have l_0 := il_0
  have l_7 := il_7
  refine wq_b (tt_good N I L M) (fun r1 h1 => ?_)
  refine wq_eq (fun hc => ?_) (fun hc => ?_)
  · exact wq_s (RP.of (M := M) (NP.rf k))
  · have hh : (0 ≤ y1.toInt ∧ y1.toInt ≤ 3) ∧ (0 ≤ y2.toInt ∧ y2.toInt ≤ 6) ∧ (1 ≤ y6.toInt ∧ y6.toInt ≤ 1000000) := by
      rcases h with q | q
      · exact absurd q (by omega)
      · exact q
    have ta := ia_mul (7 : Int32) 7 il_7 y1 (by omega) (by omega)
    have tb := ia_add ((7 : Int32) * y1) y2 (by omega) (by omega)
    refine wq_in (n := 28) ⟨by omega, by omega⟩ (wq_v (fun M2 e2 => ?_))
    refine wq_in (n := 28) ⟨by omega, by omega⟩ (wq_v (fun M3 e3 => ?_))
    refine wq_in (n := 28) ⟨by omega, by omega⟩ (wq_v (fun M4 e4 => ?_))
    refine wq_in (n := 28) ⟨by omega, by omega⟩ (wq_v (fun M5 e5 => ?_))
    subst e2
    subst e3
    subst e4
    subst e5
    exact wq_s ⟨KX12.sm12 (KX12.sm11 (KX12.sm10 (KX12.sm9 k))) hh.2.2, by show _ ∨ (I 4).toInt ≠ 0; omega, Int.le_refl _⟩
theorem tt_rs32 {N : Nat} (hN : 3000000000 ≤ N) (I : Nat → Int32) (L : Int64) (M : Nat → Nat → Int32) (y1 y2 z : Int32) (k : KX12 I M) (h : (I 4).toInt ≠ 0 ∨ z.toInt = 0 ∨ ((0 ≤ y1.toInt ∧ y1.toInt ≤ 3) ∧ (0 ≤ y2.toInt ∧ y2.toInt ≤ 6))) : wq (fX12_readsSet_J32 N I L M y1 y2 z) (RP I) := by
  unfold fX12_readsSet_J32
  have l_0 := il_0
  have l_1 := il_1
  have l_2 := il_2
  have l_m := il_1000000
  refine wq_b (tt_need hN I L M z k) (fun r6 h6 => ?_)
  obtain ⟨n6, g6⟩ := h6
  rw [n6.1]
  refine wq_b (tt_named hN r6.1 r6.2.1 M 12 0 21599 n6.2.2.1) (fun r7 h7 => ?_)
  obtain ⟨n7, -⟩ := h7
  refine wq_v (fun v8 e8 => ?_)
  rw [n7.1]
  refine wq_b (tt_named hN r7.2.1 r7.2.2.1 M 13 0 2000000 n7.2.2.1) (fun r9 h9 => ?_)
  obtain ⟨n9, -⟩ := h9
  refine wq_v (fun v10 e10 => ?_)
  rw [n9.1]
  have na : NP I M r9.2 := NP.tr (NP.tr n6 n7) n9
  have key : ∀ (J : Nat → Int32) (L2 : Int64) (p5 p6 : Int32), NP I M (J, L2, M) → ((J 4).toInt ≠ 0 ∨ (1 ≤ p6.toInt ∧ p6.toInt ≤ 1000000)) → (∀ q : (J 4).toInt = 0, (r6.1 4).toInt = 0) → wq (fX12_readsSet_J102 N J L2 M y1 y2 v8 v10 p5 p6) (RP I) := by
    intro J L2 p5 p6 nJ h6' hs
    refine wq_w (tt_rs102 N J L2 M y1 y2 v8 v10 p5 p6 nJ.2.2.1 ?_) (fun q g => RP.tr nJ g)
    by_cases q : (J 4).toInt = 0
    · right
      have q6 := hs q
      have a := n6.2.2.2.1
      have b := h6'.resolve_left (fun w => w q)
      have g := g6.resolve_left (fun w => w q6)
      rcases h with w | w | w
      · exact absurd w (by omega)
      · exact absurd w g.1
      · exact ⟨w.1, w.2, b⟩
    · exact Or.inl q
  have s9 : (r9.2.1 4).toInt = 0 → (r6.1 4).toInt = 0 := by
    have a := n7.2.2.2.1
    have b := n9.2.2.2.1
    omega
  have n9' : NP I M (r9.2.1, r9.2.2.1, M) := ⟨rfl, na.2.1, na.2.2.1, na.2.2.2.1, na.2.2.2.2⟩
  refine wq_b (tt_good N r9.2.1 r9.2.2.1 M) (fun r11 h11 => ?_)
  refine wq_eq (fun hc => ?_) (fun hc => ?_)
  · exact key r9.2.1 r9.2.2.1 0 1 n9' (Or.inr ⟨by decide, by decide⟩) s9
  · refine wq_b (tt_fX12_knownWord hN r9.2.1 r9.2.2.1 M na.2.2.1) (fun r12 h12 => ?_)
    refine wq_i (fun _ => ?_) (fun _ => ?_)
    · refine wq_b (tt_named hN r9.2.1 r9.2.2.1 M 14 0 10800 na.2.2.1) (fun r13 h13 => ?_)
      obtain ⟨n13, -⟩ := h13
      refine wq_v (fun v14 e14 => ?_)
      rw [n13.1]
      refine wq_b (tt_named hN r13.2.1 r13.2.2.1 M 15 2 1000000 n13.2.2.1) (fun r15 h15 => ?_)
      obtain ⟨n15, g15⟩ := h15
      refine wq_v (fun v16 e16 => ?_)
      rw [n15.1]
      have nb : NP I M r15.2 := NP.tr (NP.tr na n13) n15
      refine key r15.2.1 r15.2.2.1 v14 v16 ⟨rfl, nb.2.1, nb.2.2.1, nb.2.2.2.1, nb.2.2.2.2⟩ ?_ ?_
      · rw [e16]; omega
      · have a := n13.2.2.2.1
        have b := n15.2.2.2.1
        omega
    · exact key r9.2.1 r9.2.2.1 0 1 n9' (Or.inr ⟨by decide, by decide⟩) s9
theorem tt_rs {N : Nat} (hN : 3000000000 ≤ N) (I : Nat → Int32) (L : Int64) (M : Nat → Nat → Int32) (k : KX12 I M) : wq (fX12_readsSet N I L M) (RP I) := by
  unfold fX12_readsSet fX12_readsSet_J31
  have l_0 := il_0
  have l_3 := il_3
  have l_7 := il_7
  refine wq_b (tt_steps hN I L M k) (fun r17 h17 => ?_)
  have n17 := NP.of h17
  rw [n17.1]
  refine wq_b (tt_number hN r17.1 r17.2.1 M 0 3 n17.2.2.1) (fun r18 h18 => ?_)
  obtain ⟨n18, g18⟩ := h18
  refine wq_v (fun v19 e19 => ?_)
  rw [n18.1]
  have na : NP I M r18.2 := NP.tr n17 n18
  refine wq_b (tt_fX12_knownWord hN r18.2.1 r18.2.2.1 M na.2.2.1) (fun r20 h20 => ?_)
  refine wq_lt (fun hc => ?_) (fun hc => ?_)
  · exact wq_w (tt_rs32 hN r18.2.1 r18.2.2.1 M v19 r20 0 na.2.2.1 (Or.inr (Or.inl il_0))) (fun q g => RP.tr na g)
  · refine wq_le (fun hc2 => ?_) (fun hc2 => ?_)
    · exact wq_w (tt_rs32 hN r18.2.1 r18.2.2.1 M v19 r20 0 na.2.2.1 (Or.inr (Or.inl il_0))) (fun q g => RP.tr na g)
    · refine wq_w (tt_rs32 hN r18.2.1 r18.2.2.1 M v19 r20 1 na.2.2.1 ?_) (fun q g => RP.tr na g)
      rw [e19]
      omega
theorem tt_fX12_readsSet {N : Nat} (hN : 3000000000 ≤ N) (I0 : Nat → Int32) (L0 : Int64) (M0 : Nat → Nat → Int32) (k_I0 : KX12 I0 M0) : wq (fX12_readsSet N I0 L0 M0) (fun r => KX12 r.1 r.2.2 ∧ True) := wq_w (tt_rs hN I0 L0 M0 k_I0) (fun r h => ⟨h.1, trivial⟩)
/-- the row of RISING numbers under way -/
def RW (M : Nat → Nat → Int32) (c z : Nat) (s : Int32) : Prop := (∀ w : Nat, w < z → 1 ≤ (M 13 (12 * c + w)).toInt ∧ (M 13 (12 * c + w)).toInt ≤ 3600) ∧ s.toInt = sm (M 13) (12 * c) z ∧ (z = 12 → s.toInt = 3600)
theorem sm_up (f : Nat → Int32) (a i : Nat) (v : Int32) : ∀ n : Nat, (∀ w : Nat, w < n → a + w ≠ i) → sm (upd f i v) a n = sm f a n := by
  intro n
  induction n with
  | zero => intro _; rfl
  | succ n ih =>
    intro h
    show sm (upd f i v) a n + (upd f i v (a + n)).toInt = sm f a n + (f (a + n)).toInt
    rw [ih (fun w hw => h w (by omega))]
    have e : upd f i v (a + n) = f (a + n) := by unfold upd; rw [if_neg (h n (by omega))]
    rw [e]
theorem sm_le (f : Nat → Int32) (a : Nat) : ∀ n : Nat, (∀ w : Nat, w < n → 1 ≤ (f (a + w)).toInt ∧ (f (a + w)).toInt ≤ 3600) → 0 ≤ sm f a n ∧ sm f a n ≤ 3600 * n := by
  intro n
  induction n with
  | zero => intro _; simp [sm]
  | succ n ih =>
    intro h
    have a1 := ih (fun w hw => h w (by omega))
    have a2 := h n (by omega)
    show 0 ≤ sm f a n + (f (a + n)).toInt ∧ sm f a n + (f (a + n)).toInt ≤ _
    omega
theorem RS.um {n : Int32} {f : Nat → Int32} (h : RS n f) {i : Nat} {v : Int32} (hi : ∀ c w : Nat, (c : Int) < n.toInt → w < 12 → 12 * c + w ≠ i) : RS n (upd f i v) := by
  intro c hc
  obtain ⟨a, b⟩ := h c hc
  refine ⟨fun z hz => ?_, ?_⟩
  · have e : upd f i v (12 * c + z) = f (12 * c + z) := by unfold upd; rw [if_neg (hi c z hc hz)]
    rw [e]; exact a z hz
  · rw [sm_up f (12 * c) i v 12 (fun w hw => hi c w hc hw)]; exact b
theorem tt_rc155 (N : Nat) (I : Nat → Int32) (L : Int64) (M : Nat → Nat → Int32) (c : Nat) (hc : c ≤ 6) (k : KX12 I M) (h13 : I 13 = nI c) (h : (I 4).toInt ≠ 0 ∨ RV (M 13) c) : wq (fX12_readsClimate_J155 N I L M) (RP I) := by
  unfold fX12_readsClimate_J155
  have l_0 := il_0
  have l_1 := il_1
  refine wq_b (tt_good N I L M) (fun r1 h1 => ?_)
  refine wq_eq (fun hq => ?_) (fun hq => ?_)
  · exact wq_s (RP.of (M := M) (NP.rf k))
  · have k13 := k.i13
    have e13 : (I 13).toInt = c := by rw [h13, nI_toInt (by omega)]
    have ta := ia_add (I 13) (1 : Int32) (by omega) (by omega)
    refine wq_v (fun J eJ => ?_)
    subst eJ
    refine wq_s ⟨KX12.si13 k ⟨by omega, by omega⟩ (fun d hd => ?_), by show _ ∨ (I 4).toInt ≠ 0; omega, Int.le_refl _⟩
    rcases Nat.lt_or_ge d c with q | q
    · exact k.er2 d (by omega)
    · have : d = c := by omega
      subst this
      exact h.resolve_left (by omega)
theorem tt_rc111 {N : Nat} (hN : 3000000000 ≤ N) (g : (Nat → Int32) → Int64 → (Nat → Nat → Int32) → Int32 → Int32 → Option ((Nat → Int32) × Int64 × (Nat → Nat → Int32))) (I : Nat → Int32) (L : Int64) (M : Nat → Nat → Int32) (c z : Nat) (s : Int32) (hc : c ≤ 6) (hz : z < 12) (k : KX12 I M) (h13 : I 13 = nI c) (h : (I 4).toInt ≠ 0 ∨ (RW M c z s ∧ (z = 11 → (I 8).toInt = 2 → (I 10).toInt ≤ 7 → (I 11).toInt = 3600 - s.toInt)))
    (hg : ∀ (J : Nat → Int32) (L2 : Int64) (M2 : Nat → Nat → Int32) (s2 : Int32), KX12 J M2 → J 13 = nI c → ((J 4).toInt ≠ 0 ∨ RW M2 c (z + 1) s2) → ((I 4).toInt = 0 ∨ (J 4).toInt ≠ 0) → (I 7).toInt ≤ (J 7).toInt → wq (g J L2 M2 s2 (nI (z + 1))) (RP I)) : wq (fX12_readsClimate_J111 N g I L M s (nI z)) (RP I) := by
  unfold fX12_readsClimate_J111
  have l_0 := il_0
  have l_1 := il_1
  have l_3600 := il_3600
  refine wq_b (tt_number hN I L M 1 3600 k) (fun r6 h6 => ?_)
  obtain ⟨n6, g6⟩ := h6
  refine wq_v (fun v7 e7 => ?_)
  rw [n6.1]
  have q13 : r6.2.1 13 = nI c := (n6.2.1 13 (by decide) (by decide) (by decide) (by decide) (by decide) (by decide) (by decide)).trans h13
  refine wq_b (tt_good N r6.2.1 r6.2.2.1 M) (fun r8 h8 => ?_)
  refine wq_eq (fun hq => ?_) (fun hq => ?_)
  · refine wq_v (fun v9 e9 => wq_v (fun v10 e10 => ?_))
    rw [e10, nI_1]
    exact hg _ _ _ _ n6.2.2.1 q13 (Or.inl (by omega)) n6.2.2.2.1 n6.2.2.2.2
  · have e12 : (12 : Int32) * r6.2.1 13 + nI z = nI (12 * c + z) := by rw [q13, show (12 : Int32) = nI 12 from rfl, pk_mul, nI_add]
    rw [e12]
    have hin : ¬ (nI (12 * c + z) < 0 ∨ 84 ≤ (nI (12 * c + z)).toNatClampNeg) := wp_in (by omega) (by decide)
    rw [if_neg hin, nI_clamp (by omega)]
    refine wq_v (fun M11 e11 => wq_v (fun v12 ev12 => wq_v (fun v13 ev13 => ?_)))
    rw [ev13, nI_1]
    have i4 : (I 4).toInt = 0 := by have := n6.2.2.2.1; omega
    obtain ⟨⟨w1, w2, w3⟩, w4⟩ := h.resolve_left (fun q => q i4)
    obtain ⟨p1, p2, p3, p4, p5⟩ := g6.resolve_left (by omega)
    have hle := sm_le (M 13) (12 * c) z w1
    rw [e7] at ev12 e11
    have ta := ia_add s r6.1 (by omega) (by omega)
    have tv := congrArg Int32.toInt ev12
    have e13 : (r6.2.1 13).toInt = c := by rw [q13, nI_toInt (by omega)]
    refine hg _ _ M11 v12 ?_ q13 (Or.inr ⟨?_, ?_, ?_⟩) n6.2.2.2.1 n6.2.2.2.2
    · rw [e11]
      refine KX12.sm13 n6.2.2.1 (RS.um n6.2.2.1.er2 (fun d w hd hw => ?_))
      omega
    · intro w hw
      rw [e11]
      show 1 ≤ (upd (M 13) (12 * c + z) r6.1 (12 * c + w)).toInt ∧ (upd (M 13) (12 * c + z) r6.1 (12 * c + w)).toInt ≤ 3600
      unfold upd
      by_cases q : 12 * c + w = 12 * c + z
      · rw [if_pos q]; omega
      · rw [if_neg q]; exact w1 w (by omega)
    · rw [e11]
      show _ = sm (upd (M 13) (12 * c + z) r6.1) (12 * c) z + (upd (M 13) (12 * c + z) r6.1 (12 * c + z)).toInt
      rw [sm_up _ _ _ _ z (fun w hw => by omega)]
      have e : upd (M 13) (12 * c + z) r6.1 (12 * c + z) = r6.1 := by unfold upd; rw [if_pos rfl]
      rw [e]; omega
    · intro q
      have := w4 (by omega) p4 p5
      rw [← p1] at this
      omega
theorem tt_rc43 {N : Nat} (hN : 3000000000 ≤ N) (c : Nat) (hc : c ≤ 6) : ∀ (fu : Nat) (I : Nat → Int32) (L : Int64) (M : Nat → Nat → Int32) (z : Nat) (s : Int32), KX12 I M → I 13 = nI c → z ≤ 12 → ((I 4).toInt ≠ 0 ∨ RW M c z s) → 12 - z < fu → wq (fX12_readsClimate_L43 N fu I L M s (nI z)) (RP I) := by
  intro fu
  induction fu with
  | zero => intro I L M z s k h13 hz h hm; omega
  | succ fu ih =>
    intro I L M z s k h13 hz h hm
    rw [fX12_readsClimate_L43.eq_2]
    have l_0 := il_0
    have l_2 := il_2
    have l_7 := il_7
    have l_11 := il_11
    have l_12 := il_12
    have l_3600 := il_3600
    have ez : (nI z).toInt = z := nI_toInt (by omega)
    refine wq_le (fun hq => ?_) (fun hq => ?_)
    · refine tt_rc155 N I L M c hc k h13 ?_
      rcases h with q | q
      · exact Or.inl q
      · right
        have : z = 12 := by omega
        subst this
        exact ⟨q.1, by rw [← q.2.1]; exact q.2.2 rfl⟩
    · refine wq_b (tt_good N I L M) (fun r15 h15 => ?_)
      refine wq_eq (fun hr => ?_) (fun hr => ?_)
      · exact tt_rc155 N I L M c hc k h13 (Or.inl (by omega))
      · have i4 : (I 4).toInt = 0 := by omega
        have hw := h.resolve_left (fun q => q i4)
        have hle := sm_le (M 13) (12 * c) z hw.1
        have hs := hw.2.1
        have ts := ia_sub (3600 : Int32) s (by omega) (by omega)
        refine wq_v (fun v16 e16 => ?_)
        have t16 := congrArg Int32.toInt e16
        have hgo : ∀ (J0 : Nat → Int32), ((I 4).toInt = 0 ∨ (J0 4).toInt ≠ 0) → (I 7).toInt ≤ (J0 7).toInt → ∀ (J : Nat → Int32) (L2 : Int64) (M2 : Nat → Nat → Int32) (s2 : Int32), KX12 J M2 → J 13 = nI c → ((J 4).toInt ≠ 0 ∨ RW M2 c (z + 1) s2) → ((J0 4).toInt = 0 ∨ (J 4).toInt ≠ 0) → (J0 7).toInt ≤ (J 7).toInt → wq (fX12_readsClimate_L43 N fu J L2 M2 s2 (nI (z + 1))) (RP J0) := by
          intro J0 _ _ J L2 M2 s2 kJ j13 hJ a b
          exact wq_w (ih J L2 M2 (z + 1) s2 kJ j13 (by omega) hJ (by omega)) (fun q g => RP.go a b g)
        have h97 : (z = 11 → (I 8).toInt = 2 → (I 10).toInt ≤ 7 → (I 11).toInt = 3600 - s.toInt) → wq (fX12_readsClimate_J97 N (fun q0 q1 q2 q3 q4 => fX12_readsClimate_L43 N fu q0 q1 q2 q3 q4) I L M s (nI z)) (RP I) := by
          intro hx
          unfold fX12_readsClimate_J97 fX12_readsClimate_J98
          rw [if_neg (by decide)]
          exact tt_rc111 hN _ I L M c z s hc (by omega) k h13 (Or.inr ⟨hw, hx⟩) (hgo I (by omega) (Int.le_refl _))
        refine wq_eq (fun h11 => ?_) (fun h11 => ?_)
        · refine wq_eq (fun h8 => ?_) (fun h8 => ?_)
          · refine wq_lt (fun h10 => ?_) (fun h10 => ?_)
            · exact h97 (fun _ _ q => absurd q (by omega))
            · refine wq_eq (fun hv => ?_) (fun hv => ?_)
              · exact h97 (fun _ _ _ => by omega)
              · unfold fX12_readsClimate_J98
                rw [if_pos rfl]
                refine wq_b (tt_wrong N I L M 2 (by decide) k) (fun r14 h14 => ?_)
                rw [h14.1.1]
                have q13 : r14.1 13 = nI c := (h14.1.2.1 13 (by decide) (by decide) (by decide) (by decide) (by decide) (by decide) (by decide)).trans h13
                exact wq_w (tt_rc111 hN _ r14.1 r14.2.1 M c z s hc (by omega) h14.1.2.2.1 q13 (Or.inl h14.2) (hgo r14.1 h14.1.2.2.2.1 h14.1.2.2.2.2)) (fun q g => RP.go h14.1.2.2.2.1 h14.1.2.2.2.2 g)
          · exact h97 (fun _ q => absurd q (by omega))
        · exact h97 (fun q => absurd q (by omega))
theorem tt_rc14 {N : Nat} (hN : 3000000000 ≤ N) (I : Nat → Int32) (L : Int64) (M : Nat → Nat → Int32) (k : KX12 I M) (h : (I 4).toInt ≠ 0 ∨ (I 13).toInt ≤ 6) : wq (fX12_readsClimate_J14 N I L M) (RP I) := by
  unfold fX12_readsClimate_J14
  have l_0 := il_0
  have k13 := k.i13
  refine wq_b (tt_good N I L M) (fun r3 h3 => ?_)
  refine wq_eq (fun hq => ?_) (fun hq => ?_)
  · exact wq_s (RP.of (M := M) (NP.rf k))
  · refine wq_b (tt_steps hN I L M k) (fun r4 h4 => ?_)
    have n4 := NP.of h4
    rw [n4.1]
    refine wq_b (tt_number hN r4.1 r4.2.1 M (r4.1 13) (r4.1 13) n4.2.2.1) (fun r5 h5 => ?_)
    obtain ⟨n5, -⟩ := h5
    rw [n5.1]
    have na : NP I M r5.2 := NP.tr n4 n5
    have e13 : r5.2.1 13 = I 13 := na.2.1 13 (by decide) (by decide) (by decide) (by decide) (by decide) (by decide) (by decide)
    have ex : I 13 = nI (I 13).toInt.toNat := by
      apply Int32.toInt_inj.mp
      rw [nI_toInt (by omega)]
      omega
    refine wq_w (tt_rc43 hN (I 13).toInt.toNat (by omega) N r5.2.1 r5.2.2.1 M 0 0 na.2.2.1 (e13.trans ex) (by omega) (Or.inr ⟨fun w hw => absurd hw (by omega), il_0, fun q => absurd q (by decide)⟩) (by omega)) (fun q g => RP.go na.2.2.2.1 na.2.2.2.2 g)
theorem tt_rc {N : Nat} (hN : 3000000000 ≤ N) (I : Nat → Int32) (L : Int64) (M : Nat → Nat → Int32) (k : KX12 I M) : wq (fX12_readsClimate N I L M) (RP I) := by
  unfold fX12_readsClimate
  have l_7 := il_7
  have k13 := k.i13
  refine wq_eq (fun hc => ?_) (fun hc => ?_)
  · refine wq_b (tt_wrong N I L M 2 (by decide) k) (fun r h => ?_)
    rw [h.1.1]
    exact wq_w (tt_rc14 hN r.1 r.2.1 M h.1.2.2.1 (Or.inl h.2)) (fun q g => RP.tr h.1 g)
  · exact tt_rc14 hN I L M k (Or.inr (by omega))
theorem tt_fX12_readsClimate {N : Nat} (hN : 3000000000 ≤ N) (I0 : Nat → Int32) (L0 : Int64) (M0 : Nat → Nat → Int32) (k_I0 : KX12 I0 M0) : wq (fX12_readsClimate N I0 L0 M0) (fun r => KX12 r.1 r.2.2 ∧ True) := wq_w (tt_rc hN I0 L0 M0 k_I0) (fun r h => ⟨h.1, trivial⟩)
theorem tt_rh14 {N : Nat} (hN : 3000000000 ≤ N) (I : Nat → Int32) (L : Int64) (M : Nat → Nat → Int32) (k : KX12 I M) (h14 : (I 4).toInt ≠ 0 ∨ (I 14).toInt ≤ 29) : wq (fX12_readsHand_J14 N I L M) (RP I) := by
  unfold fX12_readsHand_J14
  have l_0 := il_0
  have l_1 := il_1
  have l_29 := il_29
  refine wq_b (tt_good N I L M) (fun r1 h1 => ?_)
  refine wq_eq (fun hc => ?_) (fun hc => ?_)
  · exact wq_s (RP.of (M := M) (NP.rf k))
  · refine wq_b (tt_steps hN I L M k) (fun r2 h2 => ?_)
    have n2 := NP.of h2
    rw [n2.1]
    refine wq_b (tt_number hN r2.1 r2.2.1 M 0 29 n2.2.2.1) (fun r3 h3 => ?_)
    obtain ⟨n3, g3⟩ := h3
    refine wq_v (fun v4 e4 => ?_)
    rw [n3.1]
    refine wq_b (tt_named hN r3.2.1 r3.2.2.1 M 18 0 29 n3.2.2.1) (fun r5 h5 => ?_)
    obtain ⟨n5, g5⟩ := h5
    refine wq_v (fun v6 e6 => ?_)
    rw [n5.1]
    have na : NP I M r5.2 := NP.tr (NP.tr n2 n3) n5
    refine wq_b (tt_good N r5.2.1 r5.2.2.1 M) (fun r7 h7 => ?_)
    refine wq_eq (fun hc2 => ?_) (fun hc2 => ?_)
    · refine wq_s ?_
      have := RP.of na
      unfold RP at this
      rw [n5.1] at this
      exact this
    · have e14 : r5.2.1 14 = I 14 := na.2.1 14 (by decide) (by decide) (by decide) (by decide) (by decide) (by decide) (by decide)
      have k14 := k.i14
      rw [e14]
      refine wq_in (n := 30) ⟨by omega, by omega⟩ ?_
      refine wq_v (fun M8 e8 => ?_)
      refine wq_in (n := 30) ⟨by omega, by omega⟩ ?_
      refine wq_v (fun M9 e9 => ?_)
      have ta := ia_add (I 14) (1 : Int32) (by omega) (by omega)
      refine wq_v (fun J eJ => ?_)
      subst e8
      subst e9
      subst eJ
      exact wq_s ⟨KX12.si14 (KX12.sm14 (KX12.sm15 na.2.2.1)) ⟨by omega, by omega⟩, na.2.2.2.1, na.2.2.2.2⟩
theorem tt_rh {N : Nat} (hN : 3000000000 ≤ N) (I : Nat → Int32) (L : Int64) (M : Nat → Nat → Int32) (k : KX12 I M) : wq (fX12_readsHand N I L M) (RP I) := by
  unfold fX12_readsHand
  have l_30 := il_30
  have k14 := k.i14
  refine wq_eq (fun hc => ?_) (fun hc => ?_)
  · refine wq_b (tt_wrong N I L M 2 (by decide) k) (fun r h => ?_)
    rw [h.1.1]
    exact wq_w (tt_rh14 hN r.1 r.2.1 M h.1.2.2.1 (Or.inl h.2)) (fun q g => RP.tr h.1 g)
  · exact tt_rh14 hN I L M k (Or.inr (by omega))
theorem tt_fX12_readsHand {N : Nat} (hN : 3000000000 ≤ N) (I0 : Nat → Int32) (L0 : Int64) (M0 : Nat → Nat → Int32) (k_I0 : KX12 I0 M0) : wq (fX12_readsHand N I0 L0 M0) (fun r => KX12 r.1 r.2.2 ∧ True) := wq_w (tt_rh hN I0 L0 M0 k_I0) (fun r h => ⟨h.1, trivial⟩)
theorem tt_copies {N : Nat} (hN : 3000000000 ≤ N) (n1 : Nat) (f1 : Nat → Int32) (n2 : Nat) (f2 : Nat → Int32) (h : n1 ≤ n2) (hn : n2 < 2 ^ 31) : fX12_copies N n1 f1 n2 f2 = some (fun j => if j < n1 then f1 j else f2 j) := by
  have hq := wp_loopS (F := fun fu st i => fX12_copies_L2 N n1 f1 n2 fu st i) n1 (fun k j => if j < k then f1 j else f2 j) (fun j => if j < n1 then f1 j else f2 j)
    (fun fu _ => by
      show fX12_copies_L2 N n1 f1 n2 (fu + 1) _ (nI n1) = _
      rw [fX12_copies_L2.eq_2, if_pos (show Int32.ofNat n1 ≤ nI n1 from nI_le (Nat.le_refl n1) (by omega))])
    (fun fu k hk => by
      show fX12_copies_L2 N n1 f1 n2 (fu + 1) _ (nI k) = _
      rw [fX12_copies_L2.eq_2, if_neg (show ¬ Int32.ofNat n1 ≤ nI k from nI_ge hk (by omega)), if_neg (wp_in hk (by omega)), if_neg (wp_in (n := n2) (by omega) (by omega)), Option.bind_some, Option.bind_some, nI_clamp (by omega), nI_1]
      congr 1
      funext j
      unfold upd
      by_cases h1 : j = k
      · subst h1; simp
      · by_cases h2 : j < k
        · simp [h1, h2, Nat.lt_succ_of_lt h2]
        · have h3 : ¬ j < k + 1 := by omega
          simp [h1, h2, h3])
    N 0 (Nat.zero_le _) (by omega)
  have e : (fun j => if j < 0 then f1 j else f2 j) = f2 := by funext j; simp
  rw [e] at hq
  exact hq
theorem tt_fX12_copies {N : Nat} (hN : 3000000000 ≤ N) (n1 : Nat) (f1 : Nat → Int32) (n2 : Nat) (f2 : Nat → Int32)  : wq (fX12_copies N n1 f1 n2 f2) (fun r => True) := by sorry
set_option maxHeartbeats 4000000 in
theorem tt_fX12_house {N : Nat} (hN : 3000000000 ≤ N) (I0 : Nat → Int32) (L0 : Int64) (M0 : Nat → Nat → Int32) (x1 : Int32) (k_I0 : KX12 I0 M0) : wq (fX12_house N I0 L0 M0 x1) (fun r => KX12 r.2.1 r.2.2.2 ∧ True) := by sorry
set_option maxHeartbeats 4000000 in
theorem tt_fX12_isBook {N : Nat} (hN : 3000000000 ≤ N) (I0 : Nat → Int32) (L0 : Int64) (M0 : Nat → Nat → Int32) (x1 : Int32) (k_I0 : KX12 I0 M0) : wq (fX12_isBook N I0 L0 M0 x1) (fun r => (r.1.toInt = 0 ∨ (r.1.toInt = 1 ∧ 0 ≤ x1.toInt ∧ x1.toInt ≤ 5)) ∧ (r.2.1 1).toInt = (I0 1).toInt ∧ (0 ≤ r.1.toInt ∧ r.1.toInt ≤ 1) ∧ KX12 r.2.1 r.2.2.2 ∧ True) := by
  unfold fX12_isBook
  have b_25436 := i32b x1
  have l_0 := il_0
  refine wq_lt (fun hc_25437 => ?_) (fun hc_25438 => ?_)
  · have l_1 := il_1
    refine wq_b (tt_fX12_right hN I0 L0 M0 (0 : Int32) (1 : Int32) ⟨by omega, by omega⟩ k_I0) (fun r1_q25439 h_r1_q25439 => ?_)
    obtain ⟨h_r1_q25439_0, h_r1_q25439_1, h_r1_q25439_2, h_r1_q25439_3, -⟩ := h_r1_q25439
    have t_25440 := KX12.i1 h_r1_q25439_3
    have t_25441 := KX12.i1 k_I0
    refine wq_bz (by omega) ?_
    exact wq_s ⟨(show (r1_q25439.1.toInt = 0 ∨ (r1_q25439.1.toInt = 1 ∧ 0 ≤ x1.toInt ∧ x1.toInt ≤ 5)) from by omega), (show (r1_q25439.2.1 1).toInt = (I0 1).toInt from by omega), (show 0 ≤ r1_q25439.1.toInt ∧ r1_q25439.1.toInt ≤ 1 from ⟨by omega, by omega⟩), h_r1_q25439_3, trivial⟩
  · have l_6 := il_6
    refine wq_le (fun hc_25442 => ?_) (fun hc_25443 => ?_)
    · have l_1 := il_1
      refine wq_b (tt_fX12_right hN I0 L0 M0 (0 : Int32) (1 : Int32) ⟨by omega, by omega⟩ k_I0) (fun r2_q25444 h_r2_q25444 => ?_)
      obtain ⟨h_r2_q25444_0, h_r2_q25444_1, h_r2_q25444_2, h_r2_q25444_3, -⟩ := h_r2_q25444
      have t_25445 := KX12.i1 h_r2_q25444_3
      have t_25446 := KX12.i1 k_I0
      refine wq_bz (by omega) ?_
      exact wq_s ⟨(show (r2_q25444.1.toInt = 0 ∨ (r2_q25444.1.toInt = 1 ∧ 0 ≤ x1.toInt ∧ x1.toInt ≤ 5)) from by omega), (show (r2_q25444.2.1 1).toInt = (I0 1).toInt from by omega), (show 0 ≤ r2_q25444.1.toInt ∧ r2_q25444.1.toInt ≤ 1 from ⟨by omega, by omega⟩), h_r2_q25444_3, trivial⟩
    · have l_1 := il_1
      refine wq_b (tt_fX12_right hN I0 L0 M0 (1 : Int32) (1 : Int32) ⟨by omega, by omega⟩ k_I0) (fun r3_q25447 h_r3_q25447 => ?_)
      obtain ⟨h_r3_q25447_0, h_r3_q25447_1, h_r3_q25447_2, h_r3_q25447_3, -⟩ := h_r3_q25447
      have t_25448 := KX12.i1 h_r3_q25447_3
      have t_25449 := KX12.i1 k_I0
      refine wq_bz (by omega) ?_
      exact wq_s ⟨(show (r3_q25447.1.toInt = 0 ∨ (r3_q25447.1.toInt = 1 ∧ 0 ≤ x1.toInt ∧ x1.toInt ≤ 5)) from by omega), (show (r3_q25447.2.1 1).toInt = (I0 1).toInt from by omega), (show 0 ≤ r3_q25447.1.toInt ∧ r3_q25447.1.toInt ≤ 1 from ⟨by omega, by omega⟩), h_r3_q25447_3, trivial⟩
set_option maxHeartbeats 4000000 in
theorem tt_fX12_isWheel {N : Nat} (hN : 3000000000 ≤ N) (I0 : Nat → Int32) (L0 : Int64) (M0 : Nat → Nat → Int32) (x1 : Int32) (x2 : Int32) (k_I0 : KX12 I0 M0) : wq (fX12_isWheel N I0 L0 M0 x1 x2) (fun r => (r.1.toInt = 0 ∨ (r.1.toInt = 1 ∧ 0 ≤ x1.toInt ∧ x1.toInt ≤ 5 ∧ 0 ≤ x2.toInt ∧ x2.toInt ≤ 19)) ∧ (r.2.1 1).toInt = (I0 1).toInt ∧ (0 ≤ r.1.toInt ∧ r.1.toInt ≤ 1) ∧ KX12 r.2.1 r.2.2.2 ∧ True) := by
  unfold fX12_isWheel
  refine wq_v (fun I0_1_q25636 h_I0_1_q25636 => ?_)
  have k_I0_1_q25636 : KX12 I0_1_q25636 M0 := by rw [h_I0_1_q25636]; exact KX12.si0 k_I0
  have b_25637 := i32b x1
  have l_0 := il_0
  refine wq_lt (fun hc_25638 => ?_) (fun hc_25639 => ?_)
  · have l_1 := il_1
    refine wq_b (tt_fX12_right hN I0_1_q25636 L0 M0 (0 : Int32) (1 : Int32) ⟨by omega, by omega⟩ k_I0_1_q25636) (fun r2_q25640 h_r2_q25640 => ?_)
    obtain ⟨h_r2_q25640_0, h_r2_q25640_1, h_r2_q25640_2, h_r2_q25640_3, -⟩ := h_r2_q25640
    have t_25641 := KX12.i1 h_r2_q25640_3
    have t_25642 := KX12.i1 k_I0
    have t_25643 : (I0_1_q25636 1).toInt = (I0 1).toInt := by rw [h_I0_1_q25636]; rfl
    refine wq_bz (by omega) ?_
    have b_25644 := i32b x2
    exact wq_s ⟨(show (r2_q25640.1.toInt = 0 ∨ (r2_q25640.1.toInt = 1 ∧ 0 ≤ x1.toInt ∧ x1.toInt ≤ 5 ∧ 0 ≤ x2.toInt ∧ x2.toInt ≤ 19)) from by omega), (show (r2_q25640.2.1 1).toInt = (I0 1).toInt from by omega), (show 0 ≤ r2_q25640.1.toInt ∧ r2_q25640.1.toInt ≤ 1 from ⟨by omega, by omega⟩), h_r2_q25640_3, trivial⟩
  · have l_6 := il_6
    refine wq_le (fun hc_25645 => ?_) (fun hc_25646 => ?_)
    · have l_1 := il_1
      refine wq_b (tt_fX12_right hN I0_1_q25636 L0 M0 (0 : Int32) (1 : Int32) ⟨by omega, by omega⟩ k_I0_1_q25636) (fun r3_q25647 h_r3_q25647 => ?_)
      obtain ⟨h_r3_q25647_0, h_r3_q25647_1, h_r3_q25647_2, h_r3_q25647_3, -⟩ := h_r3_q25647
      have t_25648 := KX12.i1 h_r3_q25647_3
      have t_25649 := KX12.i1 k_I0
      have t_25650 : (I0_1_q25636 1).toInt = (I0 1).toInt := by rw [h_I0_1_q25636]; rfl
      refine wq_bz (by omega) ?_
      have b_25651 := i32b x2
      exact wq_s ⟨(show (r3_q25647.1.toInt = 0 ∨ (r3_q25647.1.toInt = 1 ∧ 0 ≤ x1.toInt ∧ x1.toInt ≤ 5 ∧ 0 ≤ x2.toInt ∧ x2.toInt ≤ 19)) from by omega), (show (r3_q25647.2.1 1).toInt = (I0 1).toInt from by omega), (show 0 ≤ r3_q25647.1.toInt ∧ r3_q25647.1.toInt ≤ 1 from ⟨by omega, by omega⟩), h_r3_q25647_3, trivial⟩
    · have b_25652 := i32b x2
      refine wq_lt (fun hc_25653 => ?_) (fun hc_25654 => ?_)
      · have l_1 := il_1
        refine wq_b (tt_fX12_right hN I0_1_q25636 L0 M0 (0 : Int32) (1 : Int32) ⟨by omega, by omega⟩ k_I0_1_q25636) (fun r4_q25655 h_r4_q25655 => ?_)
        obtain ⟨h_r4_q25655_0, h_r4_q25655_1, h_r4_q25655_2, h_r4_q25655_3, -⟩ := h_r4_q25655
        have t_25656 := KX12.i1 h_r4_q25655_3
        have t_25657 := KX12.i1 k_I0
        have t_25658 : (I0_1_q25636 1).toInt = (I0 1).toInt := by rw [h_I0_1_q25636]; rfl
        refine wq_bz (by omega) ?_
        exact wq_s ⟨(show (r4_q25655.1.toInt = 0 ∨ (r4_q25655.1.toInt = 1 ∧ 0 ≤ x1.toInt ∧ x1.toInt ≤ 5 ∧ 0 ≤ x2.toInt ∧ x2.toInt ≤ 19)) from by omega), (show (r4_q25655.2.1 1).toInt = (I0 1).toInt from by omega), (show 0 ≤ r4_q25655.1.toInt ∧ r4_q25655.1.toInt ≤ 1 from ⟨by omega, by omega⟩), h_r4_q25655_3, trivial⟩
      · have l_20 := il_20
        refine wq_le (fun hc_25659 => ?_) (fun hc_25660 => ?_)
        · have l_1 := il_1
          refine wq_b (tt_fX12_right hN I0_1_q25636 L0 M0 (0 : Int32) (1 : Int32) ⟨by omega, by omega⟩ k_I0_1_q25636) (fun r5_q25661 h_r5_q25661 => ?_)
          obtain ⟨h_r5_q25661_0, h_r5_q25661_1, h_r5_q25661_2, h_r5_q25661_3, -⟩ := h_r5_q25661
          have t_25662 := KX12.i1 h_r5_q25661_3
          have t_25663 := KX12.i1 k_I0
          have t_25664 : (I0_1_q25636 1).toInt = (I0 1).toInt := by rw [h_I0_1_q25636]; rfl
          refine wq_bz (by omega) ?_
          exact wq_s ⟨(show (r5_q25661.1.toInt = 0 ∨ (r5_q25661.1.toInt = 1 ∧ 0 ≤ x1.toInt ∧ x1.toInt ≤ 5 ∧ 0 ≤ x2.toInt ∧ x2.toInt ≤ 19)) from by omega), (show (r5_q25661.2.1 1).toInt = (I0 1).toInt from by omega), (show 0 ≤ r5_q25661.1.toInt ∧ r5_q25661.1.toInt ≤ 1 from ⟨by omega, by omega⟩), h_r5_q25661_3, trivial⟩
        · have l_1 := il_1
          refine wq_b (tt_fX12_right hN I0_1_q25636 L0 M0 (1 : Int32) (1 : Int32) ⟨by omega, by omega⟩ k_I0_1_q25636) (fun r6_q25665 h_r6_q25665 => ?_)
          obtain ⟨h_r6_q25665_0, h_r6_q25665_1, h_r6_q25665_2, h_r6_q25665_3, -⟩ := h_r6_q25665
          have t_25666 := KX12.i1 h_r6_q25665_3
          have t_25667 := KX12.i1 k_I0
          have t_25668 : (I0_1_q25636 1).toInt = (I0 1).toInt := by rw [h_I0_1_q25636]; rfl
          refine wq_bz (by omega) ?_
          exact wq_s ⟨(show (r6_q25665.1.toInt = 0 ∨ (r6_q25665.1.toInt = 1 ∧ 0 ≤ x1.toInt ∧ x1.toInt ≤ 5 ∧ 0 ≤ x2.toInt ∧ x2.toInt ≤ 19)) from by omega), (show (r6_q25665.2.1 1).toInt = (I0 1).toInt from by omega), (show 0 ≤ r6_q25665.1.toInt ∧ r6_q25665.1.toInt ≤ 1 from ⟨by omega, by omega⟩), h_r6_q25665_3, trivial⟩
/-- an ENTRY is read: as RP, and behind it a fault, the text's end, or a byte on -/
def EP (I : Nat → Int32) (r : (Nat → Int32) × Int64 × (Nat → Nat → Int32)) : Prop := RP I r ∧ ((r.1 4).toInt ≠ 0 ∨ (r.1 8).toInt = 0 ∨ (I 7).toInt < (r.1 7).toInt)
theorem EP.go {I J : Nat → Int32} {q : (Nat → Int32) × Int64 × (Nat → Nat → Int32)} (a : (I 4).toInt = 0 ∨ (J 4).toInt ≠ 0) (b : (I 7).toInt ≤ (J 7).toInt) (g : EP J q) : EP I q := ⟨RP.go a b g.1, by have c := g.2; omega⟩
theorem tt_re193 {N : Nat} (hN : 3000000000 ≤ N) (I : Nat → Int32) (L : Int64) (M : Nat → Nat → Int32) (k : KX12 I M) : wq (fX12_readsEntry_J193 N I L M) (EP I) := by
  unfold fX12_readsEntry_J193
  have h : ∀ z : Int32, wq ((fX12_need N I L M z).bind fun r2 => some (r2.1, r2.2.1, r2.2.2)) (EP I) := by
    intro z
    refine wq_b (tt_need hN I L M z k) (fun r h => ?_)
    refine wq_s ⟨RP.of h.1, ?_⟩
    rcases h.2 with q | q
    · exact Or.inl q
    · exact Or.inr q.2
  exact wq_i (fun _ => h 1) (fun _ => h 0)
theorem tt_re168 {N : Nat} (hN : 3000000000 ≤ N) (I : Nat → Int32) (L : Int64) (M : Nat → Nat → Int32) (y2 y3 z0 z1 : Int32) (k : KX12 I M) (h : (I 4).toInt ≠ 0 ∨ ((0 ≤ y2.toInt ∧ y2.toInt ≤ 21) ∧ (0 ≤ y3.toInt ∧ y3.toInt ≤ 12) ∧ (y2.toInt = 21 ∨ y3.toInt ≤ 11))) (hz1 : z1.toInt = 0) (hz0 : z0.toInt ≤ 29) : wq (fX12_readsEntry_J168 N I L M y2 y3 z0 z1) (EP I) := by
  unfold fX12_readsEntry_J168
  have l_0 := il_0
  have l_30 := il_30
  refine wq_b (tt_number hN I L M z1 z0 k) (fun r3 h3 => ?_)
  obtain ⟨n3, g3⟩ := h3
  refine wq_v (fun v4 e4 => ?_)
  have t4 := congrArg Int32.toInt e4
  rw [n3.1]
  refine wq_b (tt_good N r3.2.1 r3.2.2.1 M) (fun r5 h5 => ?_)
  refine wq_eq (fun hc => ?_) (fun hc => ?_)
  · exact wq_w (tt_re193 hN r3.2.1 r3.2.2.1 M n3.2.2.1) (fun q g => EP.go n3.2.2.2.1 n3.2.2.2.2 g)
  · have i4 : (I 4).toInt = 0 := by have := n3.2.2.2.1; omega
    obtain ⟨w1, w2, w3⟩ := h.resolve_left (fun q => q i4)
    have p := g3.resolve_left (by omega)
    refine wq_in (n := 22) ⟨by omega, by omega⟩ (wq_v (fun M6 e6 => ?_))
    have ta := ia_mul (30 : Int32) 30 il_30 y3 (by omega) (by omega)
    have tb := ia_add ((30 : Int32) * y3) v4 (by omega) (by omega)
    have tn := tn_of y2 (by omega)
    subst e6
    have k6 : KX12 r3.2.1 (wb_um M 16 y2.toNatClampNeg ((30 : Int32) * y3 + v4)) := KX12.sm16 n3.2.2.1 ⟨by omega, by omega⟩ (DN.um n3.2.2.1.edn (fun q => by omega))
    exact wq_w (tt_re193 hN r3.2.1 r3.2.2.1 _ k6) (fun q g => EP.go n3.2.2.2.1 n3.2.2.2.2 g)
theorem tt_re144 {N : Nat} (hN : 3000000000 ≤ N) (I : Nat → Int32) (L : Int64) (M : Nat → Nat → Int32) (y1 y2 z0 z1 : Int32) (k : KX12 I M) (h : (I 4).toInt ≠ 0 ∨ ((0 ≤ y2.toInt ∧ y2.toInt ≤ 21) ∧ z0.toInt ≤ 12 ∧ (y2.toInt = 21 ∨ z0.toInt ≤ 11))) (hz1 : z1.toInt = 0) : wq (fX12_readsEntry_J144 N I L M y1 y2 z0 z1) (EP I) := by
  unfold fX12_readsEntry_J144 fX12_readsEntry_J166
  refine wq_b (tt_number hN I L M z1 z0 k) (fun r7 h7 => ?_)
  obtain ⟨n7, g7⟩ := h7
  refine wq_v (fun v8 e8 => ?_)
  have t8 := congrArg Int32.toInt e8
  rw [n7.1]
  have hh : ∀ w : Int32, w.toInt ≤ 29 → wq (fX12_readsEntry_J168 N r7.2.1 r7.2.2.1 M y2 v8 w 0) (EP I) := by
    intro w hw
    refine wq_w (tt_re168 hN r7.2.1 r7.2.2.1 M y2 v8 w 0 n7.2.2.1 ?_ il_0 hw) (fun q g => EP.go n7.2.2.2.1 n7.2.2.2.2 g)
    have a := n7.2.2.2.1
    rcases g7 with q | q
    · exact Or.inl q
    · by_cases c4 : (r7.2.1 4).toInt = 0
      · right
        have := h.resolve_left (by omega)
        omega
      · exact Or.inl c4
  refine wq_i (fun _ => wq_i (fun _ => hh 4 (by decide)) (fun _ => hh 29 (by decide))) (fun _ => hh 29 (by decide))
theorem tt_re129 {N : Nat} (hN : 3000000000 ≤ N) (I : Nat → Int32) (L : Int64) (M : Nat → Nat → Int32) (y1 y2 : Int32) (k : KX12 I M) (h : (I 4).toInt ≠ 0 ∨ ((0 ≤ y2.toInt ∧ y2.toInt ≤ 21) ∧ (y1.toInt ≠ 10 ∨ y2.toInt = 21))) : wq (fX12_readsEntry_J129 N I L M y1 y2) (EP I) := by
  unfold fX12_readsEntry_J129
  have l_10 := il_10
  have l_11 := il_11
  have l_12 := il_12
  refine wq_eq (fun hc => ?_) (fun hc => ?_)
  · exact tt_re144 hN I L M y1 y2 12 0 k (by omega) il_0
  · exact tt_re144 hN I L M y1 y2 11 0 k (by omega) il_0
theorem tt_re62 {N : Nat} (hN : 3000000000 ≤ N) (I : Nat → Int32) (L : Int64) (M : Nat → Nat → Int32) (y1 y2 : Int32) (k : KX12 I M) (h : (I 4).toInt ≠ 0 ∨ y1.toInt = 9 ∨ ((0 ≤ y2.toInt ∧ y2.toInt ≤ 21) ∧ (y1.toInt ≠ 10 ∨ y2.toInt = 21))) : wq (fX12_readsEntry_J62 N I L M y1 y2) (EP I) := by
  unfold fX12_readsEntry_J62
  have l_0 := il_0
  have l_1 := il_1
  have l_3 := il_3
  have l_9 := il_9
  have l_12 := il_12
  refine wq_b (tt_good N I L M) (fun r9 h9 => ?_)
  refine wq_eq (fun hc => ?_) (fun hc => ?_)
  · exact wq_s ⟨RP.of (M := M) (NP.rf k), Or.inl (by show (I 4).toInt ≠ 0; omega)⟩
  · refine wq_b (tt_steps hN I L M k) (fun r10 h10 => ?_)
    have n10 := NP.of h10
    rw [n10.1]
    refine wq_eq (fun hc9 => ?_) (fun hc9 => ?_)
    · refine wq_v (fun v11 e11 => ?_)
      refine wq_b (tt_number hN r10.1 r10.2.1 M 1 12 n10.2.2.1) (fun r12 h12 => ?_)
      obtain ⟨n12, g12⟩ := h12
      refine wq_v (fun v13 e13 => ?_)
      have t13 := congrArg Int32.toInt e13
      refine wq_v (fun v14 e14 => ?_)
      have t14 := congrArg Int32.toInt e14
      rw [n12.1]
      have na : NP I M r12.2 := NP.tr n10 n12
      refine wq_b (tt_good N r12.2.1 r12.2.2.1 M) (fun r15 h15 => ?_)
      refine wq_eq (fun hc2 => ?_) (fun hc2 => ?_)
      · exact wq_w (tt_re129 hN r12.2.1 r12.2.2.1 M y1 v14 na.2.2.1 (Or.inl (by omega))) (fun q g => EP.go na.2.2.2.1 na.2.2.2.2 g)
      · have p := g12.resolve_left (by omega)
        have ta := ia_add (9 : Int32) v13 (by omega) (by omega)
        have tb := ia_sub ((9 : Int32) + v13) (1 : Int32) (by omega) (by omega)
        refine wq_in (n := 22) ⟨by omega, by omega⟩ ?_
        refine wq_i (fun _ => ?_) (fun _ => ?_)
        · exact wq_w (tt_re129 hN r12.2.1 r12.2.2.1 M y1 v14 na.2.2.1 (Or.inr ⟨⟨by omega, by omega⟩, Or.inl (by omega)⟩)) (fun q g => EP.go na.2.2.2.1 na.2.2.2.2 g)
        · refine wq_v (fun I16 e16 => wq_v (fun I17 e17 => ?_))
          subst e16
          subst e17
          have k17 : KX12 (upd (upd r12.2.1 4 3) 5 v11) M := KX12.si5 (KX12.si4 na.2.2.1)
          refine wq_w (tt_re129 hN (upd (upd r12.2.1 4 3) 5 v11) r12.2.2.1 M y1 v14 k17 (Or.inl (show (3 : Int32).toInt ≠ 0 from by decide))) (fun q g => EP.go (J := upd (upd r12.2.1 4 3) 5 v11) (Or.inr (show (3 : Int32).toInt ≠ 0 from by decide)) na.2.2.2.2 g)
    · refine wq_w (tt_re129 hN r10.1 r10.2.1 M y1 y2 n10.2.2.1 ?_) (fun q g => EP.go n10.2.2.2.1 n10.2.2.2.2 g)
      have a := n10.2.2.2.1
      omega
theorem tt_re20 {N : Nat} (hN : 3000000000 ≤ N) (I : Nat → Int32) (L : Int64) (M : Nat → Nat → Int32) (y : Int32) (k : KX12 I M) (h : (I 4).toInt ≠ 0 ∨ (0 ≤ y.toInt ∧ y.toInt ≤ 10)) : wq (fX12_readsEntry_J20 N I L M y) (EP I) := by
  unfold fX12_readsEntry_J20 fX12_readsEntry_J40
  have l_0 := il_0
  have l_9 := il_9
  have l_10 := il_10
  have l_21 := il_21
  refine wq_b (tt_good N I L M) (fun r19 h19 => ?_)
  refine wq_eq (fun hc => ?_) (fun hc => ?_)
  · exact wq_s ⟨RP.of (M := M) (NP.rf k), Or.inl (by show (I 4).toInt ≠ 0; omega)⟩
  · have hh : ∀ z : Int32, (0 ≤ z.toInt ∧ z.toInt ≤ 21) → (y.toInt ≠ 10 ∨ z.toInt = 21) → wq (if y = 9 then fX12_readsEntry_J62 N I L M y z else if (z < 0 ∨ 22 ≤ z.toNatClampNeg) then none else if (M 16 z.toNatClampNeg) = -1 then fX12_readsEntry_J62 N I L M y z else (fX12_wrong N I L M 3).bind fun r18 => fX12_readsEntry_J62 N r18.1 r18.2.1 r18.2.2 y z) (EP I) := by
      intro z hz hz2
      refine wq_eq (fun hc9 => ?_) (fun hc9 => ?_)
      · exact tt_re62 hN I L M y z k (Or.inr (Or.inl (by omega)))
      · refine wq_in (n := 22) ⟨by omega, by omega⟩ ?_
        refine wq_i (fun _ => ?_) (fun _ => ?_)
        · exact tt_re62 hN I L M y z k (Or.inr (Or.inr ⟨hz, hz2⟩))
        · refine wq_b (tt_wrong N I L M 3 (by decide) k) (fun r18 h18 => ?_)
          rw [h18.1.1]
          exact wq_w (tt_re62 hN r18.1 r18.2.1 M y z h18.1.2.2.1 (Or.inl h18.2)) (fun q g => EP.go h18.1.2.2.2.1 h18.1.2.2.2.2 g)
    refine wq_eq (fun hc10 => ?_) (fun hc10 => ?_)
    · exact hh 21 ⟨by decide, by decide⟩ (Or.inr (by decide))
    · exact hh y ⟨by omega, by omega⟩ (Or.inl (by omega))
theorem tt_re {N : Nat} (hN : 3000000000 ≤ N) (I : Nat → Int32) (L : Int64) (M : Nat → Nat → Int32) (k : KX12 I M) : wq (fX12_readsEntry N I L M) (EP I) := by
  unfold fX12_readsEntry fX12_readsEntry_J15
  have l_0 := il_0
  have l_10 := il_10
  have hw : ∀ y : Int32, wq ((fX12_wrong N I L M 1).bind fun r20 => fX12_readsEntry_J20 N r20.1 r20.2.1 r20.2.2 y) (EP I) := by
    intro y
    refine wq_b (tt_wrong N I L M 1 (by decide) k) (fun r h => ?_)
    rw [h.1.1]
    exact wq_w (tt_re20 hN r.1 r.2.1 M y h.1.2.2.1 (Or.inl h.2)) (fun q g => EP.go h.1.2.2.2.1 h.1.2.2.2.2 g)
  refine wq_b (tt_fX12_knownWord hN I L M k) (fun r21 h21 => ?_)
  refine wq_lt (fun hc => hw _) (fun hc => ?_)
  refine wq_le (fun hc2 => ?_) (fun hc2 => hw _)
  exact tt_re20 hN I L M r21 k (Or.inr ⟨by omega, by omega⟩)
theorem tt_fX12_readsEntry {N : Nat} (hN : 3000000000 ≤ N) (I0 : Nat → Int32) (L0 : Int64) (M0 : Nat → Nat → Int32) (k_I0 : KX12 I0 M0) : wq (fX12_readsEntry N I0 L0 M0) (fun r => KX12 r.1 r.2.2 ∧ True) := wq_w (tt_re hN I0 L0 M0 k_I0) (fun r h => ⟨h.1.1, trivial⟩)
set_option maxHeartbeats 4000000 in
theorem tt_fX12_wheel {N : Nat} (hN : 3000000000 ≤ N) (I0 : Nat → Int32) (L0 : Int64) (M0 : Nat → Nat → Int32) (x1 : Int32) (x2 : Int32) (x3 : Int32) (k_I0 : KX12 I0 M0) : wq (fX12_wheel N I0 L0 M0 x1 x2 x3) (fun r => KX12 r.2.1 r.2.2.2 ∧ True) := by sorry
set_option maxHeartbeats 4000000 in
theorem tt_fX12_fault {N : Nat} (hN : 3000000000 ≤ N) (I0 : Nat → Int32) (L0 : Int64) (M0 : Nat → Nat → Int32) (k_I0 : KX12 I0 M0) : wq (fX12_fault N I0 L0 M0) (fun r => KX12 r.2.1 r.2.2.2 ∧ True) := by
  unfold fX12_fault
  refine wq_v (fun I0_1_q25883 h_I0_1_q25883 => ?_)
  have k_I0_1_q25883 : KX12 I0_1_q25883 M0 := by rw [h_I0_1_q25883]; exact KX12.si0 k_I0
  have t_25884 : (I0_1_q25883 5).toInt = (I0 5).toInt := by rw [h_I0_1_q25883]; rfl
  exact wq_s ⟨k_I0_1_q25883, trivial⟩
theorem tt_fX12_at {N : Nat} (hN : 3000000000 ≤ N) (I0 : Nat → Int32) (L0 : Int64) (M0 : Nat → Nat → Int32) (x1 : Int32) (x2 : Int32) (h_x1 : 0 ≤ x1.toInt ∧ x1.toInt ≤ 119) (h_x2 : 0 ≤ x2.toInt ∧ x2.toInt ≤ 21) (k_I0 : KX12 I0 M0) : wq (fX12_at N I0 L0 M0 x1 x2) (fun r => (r.toInt ≤ 359 ∨ x2.toInt = 21) ∧ (r.toInt = (M0 7 (((22 : Int32) * x1) + x2).toNatClampNeg).toInt) ∧ (-1 ≤ r.toInt ∧ r.toInt ≤ 389) ∧ True) := by
  unfold fX12_at
  have l_22 := il_22
  have t1 := ia_mul (22 : Int32) 22 il_22 x1 (by omega) (by omega)
  have t2 := ia_add ((22 : Int32) * x1) x2 (by omega) (by omega)
  refine wq_in (n := 2640) ⟨by omega, by omega⟩ ?_
  have tn := tn_of (((22 : Int32) * x1) + x2) (by omega)
  have e : (((22 : Int32) * x1) + x2).toNatClampNeg = 22 * x1.toInt.toNat + x2.toInt.toNat := by omega
  refine wq_s ⟨?_, rfl, k_I0.m7 _, trivial⟩
  by_cases h : x2.toInt = 21
  · exact Or.inr h
  · left
    rw [e]
    exact k_I0.een _ _ (by omega)
set_option maxHeartbeats 4000000 in
theorem tt_fX12_tells_L4 {N : Nat} (hN : 3000000000 ≤ N) (I0 : Nat → Int32) (L0 : Int64) (M0 : Nat → Nat → Int32) (x1 : Int32) (h_x1 : 0 ≤ x1.toInt ∧ x1.toInt ≤ 119) (k_I0 : KX12 I0 M0)  : ∀ (fu : Nat) (y4_2 : Int32) (y4_3 : Int32), (0 ≤ y4_2.toInt ∧ y4_2.toInt ≤ 1) → (0 ≤ y4_3.toInt ∧ y4_3.toInt ≤ 22) → (22 - y4_3.toInt) < (fu : Int) → wq (fX12_tells_L4 N I0 L0 M0 x1 fu y4_2 y4_3) (fun r => (0 ≤ r.toInt ∧ r.toInt ≤ 1) ∧ True) := by
  intro fu
  induction fu with
  | zero => intro y4_2 y4_3 h_y4_2 h_y4_3 hm; exfalso; omega
  | succ fu ih =>
    intro y4_2 y4_3 h_y4_2 h_y4_3 hm
    rw [fX12_tells_L4.eq_2]
    have l_22 := il_22
    refine wq_le (fun hc_26026 => ?_) (fun hc_26027 => ?_)
    · refine wq_bz (by omega) ?_
      exact wq_s ⟨(show 0 ≤ y4_2.toInt ∧ y4_2.toInt ≤ 1 from ⟨by omega, by omega⟩), trivial⟩
    · have l_0 := il_0
      refine wq_eq (fun hc_26028 => ?_) (fun hc_26029 => ?_)
      · refine wq_b (tt_fX12_at hN I0 L0 M0 x1 y4_3 ⟨by omega, by omega⟩ ⟨by omega, by omega⟩ k_I0) (fun r2_q26030 h_r2_q26030 => ?_)
        obtain ⟨h_r2_q26030_0, h_r2_q26030_1, h_r2_q26030_2, -⟩ := h_r2_q26030
        have l_m1 := il_m1
        refine wq_eq (fun hc_26031 => ?_) (fun hc_26032 => ?_)
        · have l_1 := il_1
          have t_26034 := ia_add y4_3 (1 : Int32) (by omega) (by omega)
          refine wq_v (fun v3_q26033 h_v3_q26033 => ?_)
          have t_v3_q26033 := congrArg Int32.toInt h_v3_q26033
          exact ih (0 : Int32) v3_q26033 ⟨by omega, by omega⟩ ⟨by omega, by omega⟩ (by omega)
        · have l_1 := il_1
          have t_26036 := ia_add y4_3 (1 : Int32) (by omega) (by omega)
          refine wq_v (fun v4_q26035 h_v4_q26035 => ?_)
          have t_v4_q26035 := congrArg Int32.toInt h_v4_q26035
          exact ih (1 : Int32) v4_q26035 ⟨by omega, by omega⟩ ⟨by omega, by omega⟩ (by omega)
      · have l_1 := il_1
        have t_26038 := ia_add y4_3 (1 : Int32) (by omega) (by omega)
        refine wq_v (fun v1_q26037 h_v1_q26037 => ?_)
        have t_v1_q26037 := congrArg Int32.toInt h_v1_q26037
        exact ih (1 : Int32) v1_q26037 ⟨by omega, by omega⟩ ⟨by omega, by omega⟩ (by omega)
set_option maxHeartbeats 4000000 in
theorem tt_fX12_tells {N : Nat} (hN : 3000000000 ≤ N) (I0 : Nat → Int32) (L0 : Int64) (M0 : Nat → Nat → Int32) (x1 : Int32) (h_x1 : 0 ≤ x1.toInt ∧ x1.toInt ≤ 119) (k_I0 : KX12 I0 M0) : wq (fX12_tells N I0 L0 M0 x1) (fun r => (0 ≤ r.toInt ∧ r.toInt ≤ 1) ∧ True) := by
  unfold fX12_tells
  have l_0 := il_0
  exact tt_fX12_tells_L4 hN I0 L0 M0 x1 ⟨by omega, by omega⟩ k_I0 N (0 : Int32) (0 : Int32) ⟨by omega, by omega⟩ ⟨by omega, by omega⟩ (by omega)
set_option maxHeartbeats 4000000 in
theorem tt_fX12_bookTells_L4 {N : Nat} (hN : 3000000000 ≤ N) (I0 : Nat → Int32) (L0 : Int64) (M0 : Nat → Nat → Int32) (x1 : Int32) (h_x1 : 0 ≤ x1.toInt ∧ x1.toInt ≤ 5) (k_I0 : KX12 I0 M0)  : ∀ (fu : Nat) (y4_2 : Int32) (y4_3 : Int32), (0 ≤ y4_2.toInt ∧ y4_2.toInt ≤ 1) → (0 ≤ y4_3.toInt ∧ y4_3.toInt ≤ 20) → (20 - y4_3.toInt) < (fu : Int) → wq (fX12_bookTells_L4 N I0 L0 M0 x1 fu y4_2 y4_3) (fun r => (0 ≤ r.toInt ∧ r.toInt ≤ 1) ∧ True) := by
  intro fu
  induction fu with
  | zero => intro y4_2 y4_3 h_y4_2 h_y4_3 hm; exfalso; omega
  | succ fu ih =>
    intro y4_2 y4_3 h_y4_2 h_y4_3 hm
    rw [fX12_bookTells_L4.eq_2]
    have l_20 := il_20
    refine wq_le (fun hc_26232 => ?_) (fun hc_26233 => ?_)
    · refine wq_bz (by omega) ?_
      exact wq_s ⟨(show 0 ≤ y4_2.toInt ∧ y4_2.toInt ≤ 1 from ⟨by omega, by omega⟩), trivial⟩
    · have l_0 := il_0
      refine wq_eq (fun hc_26234 => ?_) (fun hc_26235 => ?_)
      · have t_26236 := ia_mul (20 : Int32) (20) il_20 x1 (by omega) (by omega)
        have t_26237 := ia_add ((20 : Int32) * x1) y4_3 (by omega) (by omega)
        refine wq_b (tt_fX12_tells hN I0 L0 M0 (((20 : Int32) * x1) + y4_3) ⟨by omega, by omega⟩ k_I0) (fun r2_q26238 h_r2_q26238 => ?_)
        obtain ⟨h_r2_q26238_0, -⟩ := h_r2_q26238
        refine wq_eq (fun hc_26239 => ?_) (fun hc_26240 => ?_)
        · have l_1 := il_1
          have t_26242 := ia_add y4_3 (1 : Int32) (by omega) (by omega)
          refine wq_v (fun v3_q26241 h_v3_q26241 => ?_)
          have t_v3_q26241 := congrArg Int32.toInt h_v3_q26241
          exact ih (0 : Int32) v3_q26241 ⟨by omega, by omega⟩ ⟨by omega, by omega⟩ (by omega)
        · have l_1 := il_1
          have t_26244 := ia_add y4_3 (1 : Int32) (by omega) (by omega)
          refine wq_v (fun v4_q26243 h_v4_q26243 => ?_)
          have t_v4_q26243 := congrArg Int32.toInt h_v4_q26243
          exact ih (1 : Int32) v4_q26243 ⟨by omega, by omega⟩ ⟨by omega, by omega⟩ (by omega)
      · have l_1 := il_1
        have t_26246 := ia_add y4_3 (1 : Int32) (by omega) (by omega)
        refine wq_v (fun v1_q26245 h_v1_q26245 => ?_)
        have t_v1_q26245 := congrArg Int32.toInt h_v1_q26245
        exact ih (1 : Int32) v1_q26245 ⟨by omega, by omega⟩ ⟨by omega, by omega⟩ (by omega)
set_option maxHeartbeats 4000000 in
theorem tt_fX12_bookTells {N : Nat} (hN : 3000000000 ≤ N) (I0 : Nat → Int32) (L0 : Int64) (M0 : Nat → Nat → Int32) (x1 : Int32) (h_x1 : 0 ≤ x1.toInt ∧ x1.toInt ≤ 5) (k_I0 : KX12 I0 M0) : wq (fX12_bookTells N I0 L0 M0 x1) (fun r => (0 ≤ r.toInt ∧ r.toInt ≤ 1) ∧ True) := by
  unfold fX12_bookTells
  have l_0 := il_0
  exact tt_fX12_bookTells_L4 hN I0 L0 M0 x1 ⟨by omega, by omega⟩ k_I0 N (0 : Int32) (0 : Int32) ⟨by omega, by omega⟩ ⟨by omega, by omega⟩ (by omega)
theorem tt_fX12_floor {N : Nat} (hN : 3000000000 ≤ N) (x0 : Int64) (x1 : Int64) (hr_0 : x1 ≠ 0) : wq (fX12_floor N x0 x1) (fun r => True) := by
  unfold fX12_floor
  refine wq_n hr_0 (wq_v (fun v1 e1 => ?_))
  refine wq_n hr_0 ?_
  refine wq_i (fun _ => wq_s trivial) (fun _ => wq_i (fun _ => wq_s trivial) (fun _ => wq_s trivial))
theorem tt_fX12_placeOn {N : Nat} (hN : 3000000000 ≤ N) (I0 : Nat → Int32) (L0 : Int64) (M0 : Nat → Nat → Int32) (x1 : Int32) (x2 : Int32) (x3 : Int32) (h_x1 : 0 ≤ x1.toInt ∧ x1.toInt ≤ 3) (h_x2 : 0 ≤ x2.toInt ∧ x2.toInt ≤ 6) (k_I0 : KX12 I0 M0) : wq (fX12_placeOn N I0 L0 M0 x1 x2 x3) (fun r => True) := by
  unfold fX12_placeOn
  have l_7 := il_7
  have ta := ia_mul (7 : Int32) 7 il_7 x1 (by omega) (by omega)
  have tb := ia_add ((7 : Int32) * x1) x2 (by omega) (by omega)
  refine wq_v (fun v4 e4 => ?_)
  have tv := congrArg Int32.toInt e4
  have k3 := k_I0.m3 v4.toNatClampNeg
  have hin : 0 ≤ v4.toInt ∧ v4.toInt < ((28 : Nat) : Int) := ⟨by omega, by omega⟩
  have hJ : ∀ a b c : Int64, wq (fX12_placeOn_J79 N I0 L0 M0 x1 x2 x3 v4 a b c) (fun r => True) := by
    intro a b c
    unfold fX12_placeOn_J79
    refine wq_in hin (wq_in hin (wq_in hin ?_))
    refine wq_b (tt_fX12_floor hN _ _ (i64nz (by omega))) (fun r1 _ => wq_v (fun v2 _ => wq_v (fun v3 _ => ?_)))
    exact wq_i (fun _ => wq_s trivial) (fun _ => wq_s trivial)
  refine wq_in hin (wq_nz (by omega) (wq_v (fun v5 _ => ?_)))
  refine wq_in hin (wq_v (fun v6 _ => ?_))
  refine wq_in hin (wq_in hin ?_)
  exact wq_i (fun _ => hJ _ _ _) (fun _ => hJ _ _ _)
set_option maxHeartbeats 4000000 in
theorem tt_fX12_place {N : Nat} (hN : 3000000000 ≤ N) (I0 : Nat → Int32) (L0 : Int64) (M0 : Nat → Nat → Int32) (x1 : Int32) (x2 : Int32) (x3 : Int32) (k_I0 : KX12 I0 M0) : wq (fX12_place N I0 L0 M0 x1 x2 x3) (fun r => KX12 r.2.1 r.2.2.2 ∧ True) := by
  unfold fX12_place
  refine wq_v (fun I0_3_q26535 h_I0_3_q26535 => ?_)
  have k_I0_3_q26535 : KX12 I0_3_q26535 M0 := by rw [h_I0_3_q26535]; exact KX12.si0 k_I0
  have b_26536 := i32b x1
  have l_0 := il_0
  have l_3 := il_3
  refine wq_b (tt_fX12_within hN x1 (0 : Int32) (3 : Int32)) (fun r4_q26537 h_r4_q26537 => ?_)
  obtain ⟨h_r4_q26537_0, h_r4_q26537_1, -⟩ := h_r4_q26537
  refine wq_eq (fun hc_26538 => ?_) (fun hc_26539 => ?_)
  · unfold fX12_place_J39
    unfold fX12_place_J40
    have l_1 := il_1
    refine wq_b (tt_fX12_right hN I0_3_q26535 L0 M0 (0 : Int32) (1 : Int32) ⟨by omega, by omega⟩ k_I0_3_q26535) (fun r1_q26540 h_r1_q26540 => ?_)
    obtain ⟨h_r1_q26540_0, h_r1_q26540_1, h_r1_q26540_2, h_r1_q26540_3, -⟩ := h_r1_q26540
    have t_26541 := KX12.i1 h_r1_q26540_3
    have t_26542 := KX12.i1 k_I0
    have t_26543 : (I0_3_q26535 1).toInt = (I0 1).toInt := by rw [h_I0_3_q26535]; rfl
    refine wq_eq (fun hc_26544 => ?_) (fun hc_26545 => ?_)
    · exact wq_s ⟨h_r1_q26540_3, trivial⟩
    · have b_26546 := i32b x2
      have b_26547 := i32b x3
      refine wq_b (tt_fX12_placeOn hN r1_q26540.2.1 r1_q26540.2.2.1 r1_q26540.2.2.2 x1 x2 x3 ⟨by omega, by omega⟩ ⟨by omega, by omega⟩ h_r1_q26540_3) (fun r2_q26548 h_r2_q26548 => ?_)
      obtain ⟨-⟩ := h_r2_q26548
      have b_26549 := i32b r2_q26548
      exact wq_s ⟨h_r1_q26540_3, trivial⟩
  · have b_26550 := i32b x2
    have l_6 := il_6
    refine wq_b (tt_fX12_within hN x2 (0 : Int32) (6 : Int32)) (fun r5_q26551 h_r5_q26551 => ?_)
    obtain ⟨h_r5_q26551_0, h_r5_q26551_1, -⟩ := h_r5_q26551
    refine wq_eq (fun hc_26552 => ?_) (fun hc_26553 => ?_)
    · unfold fX12_place_J39
      unfold fX12_place_J40
      have l_1 := il_1
      refine wq_b (tt_fX12_right hN I0_3_q26535 L0 M0 (0 : Int32) (1 : Int32) ⟨by omega, by omega⟩ k_I0_3_q26535) (fun r1_q26554 h_r1_q26554 => ?_)
      obtain ⟨h_r1_q26554_0, h_r1_q26554_1, h_r1_q26554_2, h_r1_q26554_3, -⟩ := h_r1_q26554
      have t_26555 := KX12.i1 h_r1_q26554_3
      have t_26556 := KX12.i1 k_I0
      have t_26557 : (I0_3_q26535 1).toInt = (I0 1).toInt := by rw [h_I0_3_q26535]; rfl
      refine wq_eq (fun hc_26558 => ?_) (fun hc_26559 => ?_)
      · exact wq_s ⟨h_r1_q26554_3, trivial⟩
      · have b_26560 := i32b x3
        refine wq_b (tt_fX12_placeOn hN r1_q26554.2.1 r1_q26554.2.2.1 r1_q26554.2.2.2 x1 x2 x3 ⟨by omega, by omega⟩ ⟨by omega, by omega⟩ h_r1_q26554_3) (fun r2_q26561 h_r2_q26561 => ?_)
        obtain ⟨-⟩ := h_r2_q26561
        have b_26562 := i32b r2_q26561
        exact wq_s ⟨h_r1_q26554_3, trivial⟩
    · have b_26563 := i32b x3
      have l_1000000 := il_1000000
      refine wq_b (tt_fX12_within hN x3 (0 : Int32) (1000000 : Int32)) (fun r6_q26564 h_r6_q26564 => ?_)
      obtain ⟨h_r6_q26564_0, h_r6_q26564_1, -⟩ := h_r6_q26564
      refine wq_eq (fun hc_26565 => ?_) (fun hc_26566 => ?_)
      · unfold fX12_place_J39
        unfold fX12_place_J40
        have l_1 := il_1
        refine wq_b (tt_fX12_right hN I0_3_q26535 L0 M0 (0 : Int32) (1 : Int32) ⟨by omega, by omega⟩ k_I0_3_q26535) (fun r1_q26567 h_r1_q26567 => ?_)
        obtain ⟨h_r1_q26567_0, h_r1_q26567_1, h_r1_q26567_2, h_r1_q26567_3, -⟩ := h_r1_q26567
        have t_26568 := KX12.i1 h_r1_q26567_3
        have t_26569 := KX12.i1 k_I0
        have t_26570 : (I0_3_q26535 1).toInt = (I0 1).toInt := by rw [h_I0_3_q26535]; rfl
        refine wq_eq (fun hc_26571 => ?_) (fun hc_26572 => ?_)
        · exact wq_s ⟨h_r1_q26567_3, trivial⟩
        · refine wq_b (tt_fX12_placeOn hN r1_q26567.2.1 r1_q26567.2.2.1 r1_q26567.2.2.2 x1 x2 x3 ⟨by omega, by omega⟩ ⟨by omega, by omega⟩ h_r1_q26567_3) (fun r2_q26573 h_r2_q26573 => ?_)
          obtain ⟨-⟩ := h_r2_q26573
          have b_26574 := i32b r2_q26573
          exact wq_s ⟨h_r1_q26567_3, trivial⟩
      · unfold fX12_place_J40
        have l_1 := il_1
        refine wq_b (tt_fX12_right hN I0_3_q26535 L0 M0 (1 : Int32) (1 : Int32) ⟨by omega, by omega⟩ k_I0_3_q26535) (fun r1_q26575 h_r1_q26575 => ?_)
        obtain ⟨h_r1_q26575_0, h_r1_q26575_1, h_r1_q26575_2, h_r1_q26575_3, -⟩ := h_r1_q26575
        have t_26576 := KX12.i1 h_r1_q26575_3
        have t_26577 := KX12.i1 k_I0
        have t_26578 : (I0_3_q26535 1).toInt = (I0 1).toInt := by rw [h_I0_3_q26535]; rfl
        refine wq_eq (fun hc_26579 => ?_) (fun hc_26580 => ?_)
        · exact wq_s ⟨h_r1_q26575_3, trivial⟩
        · refine wq_b (tt_fX12_placeOn hN r1_q26575.2.1 r1_q26575.2.2.1 r1_q26575.2.2.2 x1 x2 x3 ⟨by omega, by omega⟩ ⟨by omega, by omega⟩ h_r1_q26575_3) (fun r2_q26581 h_r2_q26581 => ?_)
          obtain ⟨-⟩ := h_r2_q26581
          have b_26582 := i32b r2_q26581
          exact wq_s ⟨h_r1_q26575_3, trivial⟩
set_option maxHeartbeats 4000000 in
theorem tt_fX12_entry {N : Nat} (hN : 3000000000 ≤ N) (I0 : Nat → Int32) (L0 : Int64) (M0 : Nat → Nat → Int32) (x1 : Int32) (x2 : Int32) (x3 : Int32) (k_I0 : KX12 I0 M0) : wq (fX12_entry N I0 L0 M0 x1 x2 x3) (fun r => (-1 ≤ r.1.toInt ∧ r.1.toInt ≤ 389) ∧ KX12 r.2.1 r.2.2.2 ∧ True) := by
  unfold fX12_entry
  have b_26679 := i32b x1
  have b_26680 := i32b x2
  refine wq_b (tt_fX12_isWheel hN I0 L0 M0 x1 x2 k_I0) (fun r1_q26681 h_r1_q26681 => ?_)
  obtain ⟨h_r1_q26681_0, h_r1_q26681_1, h_r1_q26681_2, h_r1_q26681_3, -⟩ := h_r1_q26681
  have t_26682 := KX12.i1 h_r1_q26681_3
  have t_26683 := KX12.i1 k_I0
  have l_0 := il_0
  refine wq_eq (fun hc_26684 => ?_) (fun hc_26685 => ?_)
  · exact wq_s ⟨(show -1 ≤ (0 : Int32).toInt ∧ (0 : Int32).toInt ≤ 389 from ⟨by omega, by omega⟩), h_r1_q26681_3, trivial⟩
  · have b_26686 := i32b x3
    have l_21 := il_21
    refine wq_b (tt_fX12_within hN x3 (0 : Int32) (21 : Int32)) (fun r2_q26687 h_r2_q26687 => ?_)
    obtain ⟨h_r2_q26687_0, h_r2_q26687_1, -⟩ := h_r2_q26687
    have l_1 := il_1
    refine wq_b (tt_fX12_right hN r1_q26681.2.1 r1_q26681.2.2.1 r1_q26681.2.2.2 r2_q26687 (1 : Int32) ⟨by omega, by omega⟩ h_r1_q26681_3) (fun r3_q26688 h_r3_q26688 => ?_)
    obtain ⟨h_r3_q26688_0, h_r3_q26688_1, h_r3_q26688_2, h_r3_q26688_3, -⟩ := h_r3_q26688
    have t_26689 := KX12.i1 h_r3_q26688_3
    refine wq_eq (fun hc_26690 => ?_) (fun hc_26691 => ?_)
    · exact wq_s ⟨(show -1 ≤ (0 : Int32).toInt ∧ (0 : Int32).toInt ≤ 389 from ⟨by omega, by omega⟩), h_r3_q26688_3, trivial⟩
    · have l_20 := il_20
      have t_26692 := ia_mul (20 : Int32) (20) il_20 x1 (by omega) (by omega)
      have t_26693 := ia_add ((20 : Int32) * x1) x2 (by omega) (by omega)
      refine wq_b (tt_fX12_at hN r3_q26688.2.1 r3_q26688.2.2.1 r3_q26688.2.2.2 (((20 : Int32) * x1) + x2) x3 ⟨by omega, by omega⟩ ⟨by omega, by omega⟩ h_r3_q26688_3) (fun r4_q26694 h_r4_q26694 => ?_)
      obtain ⟨h_r4_q26694_0, h_r4_q26694_1, h_r4_q26694_2, -⟩ := h_r4_q26694
      exact wq_s ⟨(show -1 ≤ r4_q26694.toInt ∧ r4_q26694.toInt ≤ 389 from ⟨by omega, by omega⟩), h_r3_q26688_3, trivial⟩
set_option maxHeartbeats 4000000 in
theorem tt_fX12_isHand_L5 {N : Nat} (hN : 3000000000 ≤ N) (I0 : Nat → Int32) (L0 : Int64) (M0 : Nat → Nat → Int32) (x1 : Int32) (x2 : Int32) (k_I0 : KX12 I0 M0)  : ∀ (fu : Nat) (y5_3 : Int32) (y5_4 : Int32), (0 ≤ y5_3.toInt ∧ y5_3.toInt ≤ 1) → (0 ≤ y5_4.toInt ∧ y5_4.toInt ≤ 30) → (30 - y5_4.toInt) < (fu : Int) → wq (fX12_isHand_L5 N I0 L0 M0 x1 x2 fu y5_3 y5_4) (fun r => (0 ≤ r.toInt ∧ r.toInt ≤ 1) ∧ True) := by
  intro fu
  induction fu with
  | zero => intro y5_3 y5_4 h_y5_3 h_y5_4 hm; exfalso; omega
  | succ fu ih =>
    intro y5_3 y5_4 h_y5_3 h_y5_4 hm
    rw [fX12_isHand_L5.eq_2]
    have t_26884 := KX12.i2 k_I0
    refine wq_le (fun hc_26885 => ?_) (fun hc_26886 => ?_)
    · refine wq_bz (by omega) ?_
      exact wq_s ⟨(show 0 ≤ y5_3.toInt ∧ y5_3.toInt ≤ 1 from ⟨by omega, by omega⟩), trivial⟩
    · have l_0 := il_0
      refine wq_eq (fun hc_26887 => ?_) (fun hc_26888 => ?_)
      · refine wq_in (n := 30) ⟨by omega, by omega⟩ ?_
        have b_26889 := i32b x1
        refine wq_eq (fun hc_26890 => ?_) (fun hc_26891 => ?_)
        · refine wq_in (n := 30) ⟨by omega, by omega⟩ ?_
          have b_26892 := i32b x2
          refine wq_eq (fun hc_26893 => ?_) (fun hc_26894 => ?_)
          · have l_1 := il_1
            have t_26896 := ia_add y5_4 (1 : Int32) (by omega) (by omega)
            refine wq_v (fun v4_q26895 h_v4_q26895 => ?_)
            have t_v4_q26895 := congrArg Int32.toInt h_v4_q26895
            exact ih (1 : Int32) v4_q26895 ⟨by omega, by omega⟩ ⟨by omega, by omega⟩ (by omega)
          · have l_1 := il_1
            have t_26898 := ia_add y5_4 (1 : Int32) (by omega) (by omega)
            refine wq_v (fun v3_q26897 h_v3_q26897 => ?_)
            have t_v3_q26897 := congrArg Int32.toInt h_v3_q26897
            exact ih (0 : Int32) v3_q26897 ⟨by omega, by omega⟩ ⟨by omega, by omega⟩ (by omega)
        · have l_1 := il_1
          have t_26900 := ia_add y5_4 (1 : Int32) (by omega) (by omega)
          refine wq_v (fun v2_q26899 h_v2_q26899 => ?_)
          have t_v2_q26899 := congrArg Int32.toInt h_v2_q26899
          exact ih (0 : Int32) v2_q26899 ⟨by omega, by omega⟩ ⟨by omega, by omega⟩ (by omega)
      · have l_1 := il_1
        have t_26902 := ia_add y5_4 (1 : Int32) (by omega) (by omega)
        refine wq_v (fun v1_q26901 h_v1_q26901 => ?_)
        have t_v1_q26901 := congrArg Int32.toInt h_v1_q26901
        exact ih (1 : Int32) v1_q26901 ⟨by omega, by omega⟩ ⟨by omega, by omega⟩ (by omega)
set_option maxHeartbeats 4000000 in
theorem tt_fX12_isHand {N : Nat} (hN : 3000000000 ≤ N) (I0 : Nat → Int32) (L0 : Int64) (M0 : Nat → Nat → Int32) (x1 : Int32) (x2 : Int32) (k_I0 : KX12 I0 M0) : wq (fX12_isHand N I0 L0 M0 x1 x2) (fun r => (0 ≤ r.toInt ∧ r.toInt ≤ 1) ∧ True) := by
  unfold fX12_isHand
  have b_26903 := i32b x1
  have b_26904 := i32b x2
  have l_0 := il_0
  exact tt_fX12_isHand_L5 hN I0 L0 M0 x1 x2 k_I0 N (0 : Int32) (0 : Int32) ⟨by omega, by omega⟩ ⟨by omega, by omega⟩ (by omega)

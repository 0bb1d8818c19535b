set_option maxHeartbeats 4000000 in
theorem tt_fX12_letters {N : Nat} (hN : 3000000000 ≤ N) (x0 : Int32)  : wq (fX12_letters N x0) (fun r => True) := by
  unfold fX12_letters
  have b_29207 := i32b x0
  have l_0 := il_0
  refine wq_eq (fun hc_29208 => ?_) (fun hc_29209 => ?_)
  · have l_115 := il_115
    have l_117 := il_117
    have l_110 := il_110
    refine wq_b (tt_fX12_spelled hN (115 : Int32) (117 : Int32) (110 : Int32) (0 : Int32) (0 : Int32) (0 : Int32) (0 : Int32)) (fun r1_q29210 h_r1_q29210 => ?_)
    obtain ⟨-⟩ := h_r1_q29210
    exact wq_s trivial
  · have l_1 := il_1
    refine wq_eq (fun hc_29211 => ?_) (fun hc_29212 => ?_)
    · have l_109 := il_109
      have l_111 := il_111
      have l_110 := il_110
      refine wq_b (tt_fX12_spelled hN (109 : Int32) (111 : Int32) (111 : Int32) (110 : Int32) (0 : Int32) (0 : Int32) (0 : Int32)) (fun r2_q29213 h_r2_q29213 => ?_)
      obtain ⟨-⟩ := h_r2_q29213
      exact wq_s trivial
    · have l_2 := il_2
      refine wq_eq (fun hc_29214 => ?_) (fun hc_29215 => ?_)
      · have l_109 := il_109
        have l_101 := il_101
        have l_114 := il_114
        have l_99 := il_99
        have l_117 := il_117
        have l_121 := il_121
        refine wq_b (tt_fX12_spelled hN (109 : Int32) (101 : Int32) (114 : Int32) (99 : Int32) (117 : Int32) (114 : Int32) (121 : Int32)) (fun r3_q29216 h_r3_q29216 => ?_)
        obtain ⟨-⟩ := h_r3_q29216
        exact wq_s trivial
      · have l_3 := il_3
        refine wq_eq (fun hc_29217 => ?_) (fun hc_29218 => ?_)
        · have l_118 := il_118
          have l_101 := il_101
          have l_110 := il_110
          have l_117 := il_117
          have l_115 := il_115
          refine wq_b (tt_fX12_spelled hN (118 : Int32) (101 : Int32) (110 : Int32) (117 : Int32) (115 : Int32) (0 : Int32) (0 : Int32)) (fun r4_q29219 h_r4_q29219 => ?_)
          obtain ⟨-⟩ := h_r4_q29219
          exact wq_s trivial
        · have l_4 := il_4
          refine wq_eq (fun hc_29220 => ?_) (fun hc_29221 => ?_)
          · have l_109 := il_109
            have l_97 := il_97
            have l_114 := il_114
            have l_115 := il_115
            refine wq_b (tt_fX12_spelled hN (109 : Int32) (97 : Int32) (114 : Int32) (115 : Int32) (0 : Int32) (0 : Int32) (0 : Int32)) (fun r5_q29222 h_r5_q29222 => ?_)
            obtain ⟨-⟩ := h_r5_q29222
            exact wq_s trivial
          · have l_5 := il_5
            refine wq_eq (fun hc_29223 => ?_) (fun hc_29224 => ?_)
            · have l_106 := il_106
              have l_117 := il_117
              have l_112 := il_112
              have l_105 := il_105
              have l_116 := il_116
              have l_101 := il_101
              have l_114 := il_114
              refine wq_b (tt_fX12_spelled hN (106 : Int32) (117 : Int32) (112 : Int32) (105 : Int32) (116 : Int32) (101 : Int32) (114 : Int32)) (fun r6_q29225 h_r6_q29225 => ?_)
              obtain ⟨-⟩ := h_r6_q29225
              exact wq_s trivial
            · have l_6 := il_6
              refine wq_eq (fun hc_29226 => ?_) (fun hc_29227 => ?_)
              · have l_115 := il_115
                have l_97 := il_97
                have l_116 := il_116
                have l_117 := il_117
                have l_114 := il_114
                have l_110 := il_110
                refine wq_b (tt_fX12_spelled hN (115 : Int32) (97 : Int32) (116 : Int32) (117 : Int32) (114 : Int32) (110 : Int32) (0 : Int32)) (fun r7_q29228 h_r7_q29228 => ?_)
                obtain ⟨-⟩ := h_r7_q29228
                exact wq_s trivial
              · have l_7 := il_7
                refine wq_eq (fun hc_29229 => ?_) (fun hc_29230 => ?_)
                · have l_114 := il_114
                  have l_105 := il_105
                  have l_115 := il_115
                  have l_101 := il_101
                  refine wq_b (tt_fX12_spelled hN (114 : Int32) (105 : Int32) (115 : Int32) (101 : Int32) (0 : Int32) (0 : Int32) (0 : Int32)) (fun r8_q29231 h_r8_q29231 => ?_)
                  obtain ⟨-⟩ := h_r8_q29231
                  exact wq_s trivial
                · have l_8 := il_8
                  refine wq_eq (fun hc_29232 => ?_) (fun hc_29233 => ?_)
                  · have l_108 := il_108
                    have l_111 := il_111
                    have l_116 := il_116
                    refine wq_b (tt_fX12_spelled hN (108 : Int32) (111 : Int32) (116 : Int32) (0 : Int32) (0 : Int32) (0 : Int32) (0 : Int32)) (fun r9b_q29234 h_r9b_q29234 => ?_)
                    obtain ⟨-⟩ := h_r9b_q29234
                    exact wq_s trivial
                  · have l_9 := il_9
                    refine wq_eq (fun hc_29235 => ?_) (fun hc_29236 => ?_)
                    · have l_104 := il_104
                      have l_111 := il_111
                      have l_117 := il_117
                      have l_115 := il_115
                      have l_101 := il_101
                      refine wq_b (tt_fX12_spelled hN (104 : Int32) (111 : Int32) (117 : Int32) (115 : Int32) (101 : Int32) (0 : Int32) (0 : Int32)) (fun r10_q29237 h_r10_q29237 => ?_)
                      obtain ⟨-⟩ := h_r10_q29237
                      exact wq_s trivial
                    · have l_10 := il_10
                      refine wq_eq (fun hc_29238 => ?_) (fun hc_29239 => ?_)
                      · have l_100 := il_100
                        have l_97 := il_97
                        have l_116 := il_116
                        have l_101 := il_101
                        refine wq_b (tt_fX12_spelled hN (100 : Int32) (97 : Int32) (116 : Int32) (101 : Int32) (0 : Int32) (0 : Int32) (0 : Int32)) (fun r11_q29240 h_r11_q29240 => ?_)
                        obtain ⟨-⟩ := h_r11_q29240
                        exact wq_s trivial
                      · have l_11 := il_11
                        refine wq_eq (fun hc_29241 => ?_) (fun hc_29242 => ?_)
                        · have l_115 := il_115
                          have l_101 := il_101
                          have l_116 := il_116
                          refine wq_b (tt_fX12_spelled hN (115 : Int32) (101 : Int32) (116 : Int32) (0 : Int32) (0 : Int32) (0 : Int32) (0 : Int32)) (fun r12_q29243 h_r12_q29243 => ?_)
                          obtain ⟨-⟩ := h_r12_q29243
                          exact wq_s trivial
                        · have l_12 := il_12
                          refine wq_eq (fun hc_29244 => ?_) (fun hc_29245 => ?_)
                          · have l_97 := il_97
                            have l_116 := il_116
                            refine wq_b (tt_fX12_spelled hN (97 : Int32) (116 : Int32) (0 : Int32) (0 : Int32) (0 : Int32) (0 : Int32) (0 : Int32)) (fun r13_q29246 h_r13_q29246 => ?_)
                            obtain ⟨-⟩ := h_r13_q29246
                            exact wq_s trivial
                          · have l_13 := il_13
                            refine wq_eq (fun hc_29247 => ?_) (fun hc_29248 => ?_)
                            · have l_103 := il_103
                              have l_111 := il_111
                              have l_101 := il_101
                              have l_115 := il_115
                              refine wq_b (tt_fX12_spelled hN (103 : Int32) (111 : Int32) (101 : Int32) (115 : Int32) (0 : Int32) (0 : Int32) (0 : Int32)) (fun r14_q29249 h_r14_q29249 => ?_)
                              obtain ⟨-⟩ := h_r14_q29249
                              exact wq_s trivial
                            · have l_14 := il_14
                              refine wq_eq (fun hc_29250 => ?_) (fun hc_29251 => ?_)
                              · have l_115 := il_115
                                have l_119 := il_119
                                have l_105 := il_105
                                have l_110 := il_110
                                have l_103 := il_103
                                refine wq_b (tt_fX12_spelled hN (115 : Int32) (119 : Int32) (105 : Int32) (110 : Int32) (103 : Int32) (0 : Int32) (0 : Int32)) (fun r15_q29252 h_r15_q29252 => ?_)
                                obtain ⟨-⟩ := h_r15_q29252
                                exact wq_s trivial
                              · have l_15 := il_15
                                refine wq_eq (fun hc_29253 => ?_) (fun hc_29254 => ?_)
                                · have l_105 := il_105
                                  have l_110 := il_110
                                  refine wq_b (tt_fX12_spelled hN (105 : Int32) (110 : Int32) (0 : Int32) (0 : Int32) (0 : Int32) (0 : Int32) (0 : Int32)) (fun r16_q29255 h_r16_q29255 => ?_)
                                  obtain ⟨-⟩ := h_r16_q29255
                                  exact wq_s trivial
                                · have l_16 := il_16
                                  refine wq_eq (fun hc_29256 => ?_) (fun hc_29257 => ?_)
                                  · have l_99 := il_99
                                    have l_108 := il_108
                                    have l_105 := il_105
                                    have l_109 := il_109
                                    have l_97 := il_97
                                    have l_116 := il_116
                                    have l_101 := il_101
                                    refine wq_b (tt_fX12_spelled hN (99 : Int32) (108 : Int32) (105 : Int32) (109 : Int32) (97 : Int32) (116 : Int32) (101 : Int32)) (fun r17_q29258 h_r17_q29258 => ?_)
                                    obtain ⟨-⟩ := h_r17_q29258
                                    exact wq_s trivial
                                  · have l_17 := il_17
                                    refine wq_eq (fun hc_29259 => ?_) (fun hc_29260 => ?_)
                                    · have l_104 := il_104
                                      have l_97 := il_97
                                      have l_110 := il_110
                                      have l_100 := il_100
                                      refine wq_b (tt_fX12_spelled hN (104 : Int32) (97 : Int32) (110 : Int32) (100 : Int32) (0 : Int32) (0 : Int32) (0 : Int32)) (fun r18_q29261 h_r18_q29261 => ?_)
                                      obtain ⟨-⟩ := h_r18_q29261
                                      exact wq_s trivial
                                    · have l_102 := il_102
                                      have l_111 := il_111
                                      have l_114 := il_114
                                      refine wq_b (tt_fX12_spelled hN (102 : Int32) (111 : Int32) (114 : Int32) (0 : Int32) (0 : Int32) (0 : Int32) (0 : Int32)) (fun r19_q29262 h_r19_q29262 => ?_)
                                      obtain ⟨-⟩ := h_r19_q29262
                                      exact wq_s trivial
set_option maxHeartbeats 4000000 in
theorem tt_fX12_knownWord_L21 {N : Nat} (hN : 3000000000 ≤ N) (I0 : Nat → Int32) (L0 : Int64) (M0 : Nat → Nat → Int32) (k_I0 : KX12 I0 M0)  : ∀ (fu : Nat) (y21_1 : Int32), (0 ≤ y21_1.toInt ∧ y21_1.toInt ≤ 19) → (19 - y21_1.toInt) < (fu : Int) → wq (fX12_knownWord_L21 N I0 L0 M0 fu y21_1) (fun r => (-1 ≤ r.toInt ∧ r.toInt ≤ 18) ∧ True) := by
  intro fu
  induction fu with
  | zero => intro y21_1 h_y21_1 hm; exfalso; omega
  | succ fu ih =>
    intro y21_1 h_y21_1 hm
    rw [fX12_knownWord_L21.eq_2]
    have l_19 := il_19
    refine wq_le (fun hc_29406 => ?_) (fun hc_29407 => ?_)
    · have l_m1 := il_m1
      exact wq_s ⟨(show -1 ≤ (-1 : Int32).toInt ∧ (-1 : Int32).toInt ≤ 18 from ⟨by omega, by omega⟩), trivial⟩
    · refine wq_b (tt_fX12_letters hN y21_1) (fun r1_q29408 h_r1_q29408 => ?_)
      obtain ⟨-⟩ := h_r1_q29408
      have l_0 := il_0
      refine wq_eq (fun hc_29409 => ?_) (fun hc_29410 => ?_)
      · exact wq_s ⟨(show -1 ≤ y21_1.toInt ∧ y21_1.toInt ≤ 18 from ⟨by omega, by omega⟩), trivial⟩
      · have l_1 := il_1
        have t_29412 := ia_add y21_1 (1 : Int32) (by omega) (by omega)
        refine wq_v (fun v2_q29411 h_v2_q29411 => ?_)
        have t_v2_q29411 := congrArg Int32.toInt h_v2_q29411
        exact ih v2_q29411 ⟨by omega, by omega⟩ (by omega)
set_option maxHeartbeats 4000000 in
theorem tt_fX12_knownWord {N : Nat} (hN : 3000000000 ≤ N) (I0 : Nat → Int32) (L0 : Int64) (M0 : Nat → Nat → Int32) (k_I0 : KX12 I0 M0) : wq (fX12_knownWord N I0 L0 M0) (fun r => (-1 ≤ r.toInt ∧ r.toInt ≤ 18) ∧ True) := by
  unfold fX12_knownWord
  have l_1 := il_1
  refine wq_eq (fun hc_29413 => ?_) (fun hc_29414 => ?_)
  · have l_7 := il_7
    refine wq_le (fun hc_29415 => ?_) (fun hc_29416 => ?_)
    · have l_0 := il_0
      exact tt_fX12_knownWord_L21 hN I0 L0 M0 k_I0 N (0 : Int32) ⟨by omega, by omega⟩ (by omega)
    · have l_m1 := il_m1
      exact wq_s ⟨(show -1 ≤ (-1 : Int32).toInt ∧ (-1 : Int32).toInt ≤ 18 from ⟨by omega, by omega⟩), trivial⟩
  · have l_m1 := il_m1
    exact wq_s ⟨(show -1 ≤ (-1 : Int32).toInt ∧ (-1 : Int32).toInt ≤ 18 from ⟨by omega, by omega⟩), trivial⟩
/-- a call that reads: rows stay, only the text's ints move, a fault stays -/
def NP (I : Nat → Int32) (M : Nat → Nat → Int32) (r : (Nat → Int32) × Int64 × (Nat → Nat → Int32)) : Prop := r.2.2 = M ∧ FR I r.1 ∧ KX12 r.1 M ∧ ((I 4).toInt = 0 ∨ (r.1 4).toInt ≠ 0) ∧ (I 7).toInt ≤ (r.1 7).toInt
theorem NP.of {I : Nat → Int32} {M : Nat → Nat → Int32} {r : (Nat → Int32) × Int64 × (Nat → Nat → Int32)} (h : SP I M r) : NP I M r := ⟨h.1, h.2.1, h.2.2.2.2.1, by rw [h.2.2.1]; omega, h.2.2.2.2.2.1⟩
theorem NP.tr {I : Nat → Int32} {M : Nat → Nat → Int32} {r q : (Nat → Int32) × Int64 × (Nat → Nat → Int32)} (h : NP I M r) (g : NP r.1 M q) : NP I M q := ⟨g.1, h.2.1.tr g.2.1, g.2.2.1, by have a := h.2.2.2.1; have b := g.2.2.2.1; omega, by have a := h.2.2.2.2; have b := g.2.2.2.2; omega⟩
theorem NP.rf {I : Nat → Int32} {L : Int64} {M : Nat → Nat → Int32} (k : KX12 I M) : NP I M (I, L, M) := ⟨rfl, FR.rf I, k, by show _ ∨ (I 4).toInt ≠ 0; omega, Int.le_refl _⟩
theorem tt_wrong (N : Nat) (I : Nat → Int32) (L : Int64) (M : Nat → Nat → Int32) (x : Int32) (hx : x.toInt ≠ 0) (k : KX12 I M) : wq (fX12_wrong N I L M x) (fun r => NP I M r ∧ (r.1 4).toInt ≠ 0) := by
  unfold fX12_wrong
  have l_0 := il_0
  refine wq_eq (fun hc => ?_) (fun hc => ?_)
  · refine wq_v (fun J e => ?_)
    refine wq_v (fun J2 e2 => ?_)
    subst e
    subst e2
    refine wq_s ⟨⟨rfl, ((FR.rf I).up (by omega)).up (by omega), KX12.si5 (KX12.si4 k), Or.inr hx, Int.le_refl _⟩, hx⟩
  · exact wq_s ⟨NP.rf k, by show (I 4).toInt ≠ 0; omega⟩
theorem tt_good (N : Nat) (I : Nat → Int32) (L : Int64) (M : Nat → Nat → Int32) : wq (fX12_isGood N I L M) (fun r => (r.toInt = 0 ∧ (I 4).toInt ≠ 0) ∨ (r.toInt = 1 ∧ (I 4).toInt = 0)) := by
  unfold fX12_isGood
  have l_0 := il_0
  have l_1 := il_1
  refine wq_eq (fun hc => ?_) (fun hc => ?_)
  · exact wq_s (by omega)
  · exact wq_s (by omega)
theorem tt_need {N : Nat} (hN : 3000000000 ≤ N) (I : Nat → Int32) (L : Int64) (M : Nat → Nat → Int32) (x : Int32) (k : KX12 I M) : wq (fX12_need N I L M x) (fun r => NP I M r ∧ ((r.1 4).toInt ≠ 0 ∨ (x.toInt ≠ 0 ∧ ((r.1 8).toInt = 0 ∨ (I 7).toInt < (r.1 7).toInt)))) := by
  unfold fX12_need
  have l_0 := il_0
  refine wq_b (tt_good N I L M) (fun r1 h1 => ?_)
  refine wq_eq (fun hc => ?_) (fun hc => ?_)
  · exact wq_s ⟨NP.rf k, Or.inl (by show (I 4).toInt ≠ 0; omega)⟩
  · refine wq_eq (fun hc2 => ?_) (fun hc2 => ?_)
    · refine wq_b (tt_wrong N I L M 1 (by decide) k) (fun r2 h2 => ?_)
      exact wq_s ⟨h2.1, Or.inl h2.2⟩
    · refine wq_b (tt_steps hN I L M k) (fun r3 h3 => ?_)
      exact wq_s ⟨NP.of h3, Or.inr ⟨by omega, h3.2.2.2.2.2.2⟩⟩
theorem tt_num55 {N : Nat} (hN : 3000000000 ≤ N) (I0 I : Nat → Int32) (L : Int64) (M : Nat → Nat → Int32) (x1 x2 : Int32) (P : Int32 → Prop) (h : NP I0 M (I, L, M)) (hp : (I 4).toInt ≠ 0 ∨ P (I 11)) : wq (fX12_number_J55 N x1 x2 I L M) (fun r => NP I0 M r.2 ∧ ((r.2.1 4).toInt ≠ 0 ∨ P r.1)) := by
  unfold fX12_number_J55
  have l_0 := il_0
  refine wq_v (fun v e => ?_)
  subst e
  refine wq_b (tt_good N I L M) (fun r1 h1 => ?_)
  refine wq_eq (fun hc => ?_) (fun hc => ?_)
  · exact wq_s ⟨h, hp⟩
  · refine wq_b (tt_steps hN I L M h.2.2.1) (fun r3 h3 => ?_)
    refine wq_s ⟨NP.tr h (NP.of h3), ?_⟩
    rcases hp with q | q
    · exact absurd q (by omega)
    · exact Or.inr q
theorem tt_number {N : Nat} (hN : 3000000000 ≤ N) (I : Nat → Int32) (L : Int64) (M : Nat → Nat → Int32) (x1 x2 : Int32) (k : KX12 I M) : wq (fX12_number N I L M x1 x2) (fun r => NP I M r.2 ∧ ((r.2.1 4).toInt ≠ 0 ∨ (r.1 = I 11 ∧ x1.toInt ≤ r.1.toInt ∧ r.1.toInt ≤ x2.toInt ∧ (I 8).toInt = 2 ∧ (I 10).toInt ≤ 7))) := by
  unfold fX12_number
  have l_0 := il_0
  have l_2 := il_2
  have l_7 := il_7
  have h50 : wq (fX12_number_J50 N x1 x2 I L M) (fun r => NP I M r.2 ∧ ((r.2.1 4).toInt ≠ 0 ∨ (r.1 = I 11 ∧ x1.toInt ≤ r.1.toInt ∧ r.1.toInt ≤ x2.toInt ∧ (I 8).toInt = 2 ∧ (I 10).toInt ≤ 7))) := by
    unfold fX12_number_J50
    refine wq_b (tt_wrong N I L M 2 (by decide) k) (fun r4 h4 => ?_)
    obtain ⟨h4, g4⟩ := h4
    have e : r4.2.2 = M := h4.1
    rw [e]
    refine tt_num55 hN I r4.1 r4.2.1 M x1 x2 (fun v => v = I 11 ∧ x1.toInt ≤ v.toInt ∧ v.toInt ≤ x2.toInt ∧ (I 8).toInt = 2 ∧ (I 10).toInt ≤ 7) ⟨rfl, h4.2.1, h4.2.2.1, h4.2.2.2⟩ (Or.inl g4)
  refine wq_b (tt_good N I L M) (fun r5 h5 => ?_)
  refine wq_eq (fun hc => ?_) (fun hc => ?_)
  · exact wq_s ⟨NP.rf k, Or.inl (by show (I 4).toInt ≠ 0; omega)⟩
  · refine wq_eq (fun h8 => ?_) (fun h8 => ?_)
    · refine wq_lt (fun h10 => h50) (fun h10 => ?_)
      refine wq_lt (fun h11 => h50) (fun h11 => ?_)
      refine wq_le (fun h12 => ?_) (fun h12 => h50)
      exact tt_num55 hN I I L M x1 x2 (fun v => v = I 11 ∧ x1.toInt ≤ v.toInt ∧ v.toInt ≤ x2.toInt ∧ (I 8).toInt = 2 ∧ (I 10).toInt ≤ 7) (NP.rf k) (Or.inr ⟨rfl, by omega, by omega, by omega, by omega⟩)
    · refine wq_b (tt_wrong N I L M 1 (by decide) k) (fun r6 h6 => ?_)
      obtain ⟨h6, g6⟩ := h6
      have e : r6.2.2 = M := h6.1
      rw [e]
      exact tt_num55 hN I r6.1 r6.2.1 M x1 x2 (fun v => v = I 11 ∧ x1.toInt ≤ v.toInt ∧ v.toInt ≤ x2.toInt ∧ (I 8).toInt = 2 ∧ (I 10).toInt ≤ 7) ⟨rfl, h6.2.1, h6.2.2.1, h6.2.2.2⟩ (Or.inl g6)
/-- a line is read: a fault stays, the place does not go back -/
def RO (I : Nat → Int32) (r : (Nat → Int32) × Int64 × (Nat → Nat → Int32)) : Prop := KX12 r.1 r.2.2 ∧ ((I 4).toInt = 0 ∨ (r.1 4).toInt ≠ 0) ∧ (I 7).toInt ≤ (r.1 7).toInt
theorem RO.of {I : Nat → Int32} {M : Nat → Nat → Int32} {r : (Nat → Int32) × Int64 × (Nat → Nat → Int32)} (h : NP I M r) : RO I r := ⟨by rw [h.1]; exact h.2.2.1, h.2.2.2.1, h.2.2.2.2⟩
theorem RO.tr {I : Nat → Int32} {M : Nat → Nat → Int32} {r q : (Nat → Int32) × Int64 × (Nat → Nat → Int32)} (h : NP I M r) (g : RO r.1 q) : RO I q := ⟨g.1, by have a := h.2.2.2.1; have b := g.2.1; omega, by have a := h.2.2.2.2; have b := g.2.2; omega⟩
theorem RO.go {I J : Nat → Int32} {q : (Nat → Int32) × Int64 × (Nat → Nat → Int32)} (a : (I 4).toInt = 0 ∨ (J 4).toInt ≠ 0) (b : (I 7).toInt ≤ (J 7).toInt) (g : RO J q) : RO I q := ⟨g.1, by have c := g.2.1; omega, by have c := g.2.2; omega⟩
def RP (I : Nat → Int32) (f : Nat → Int32) (r : (Nat → Int32) × Int64 × (Nat → Nat → Int32)) : Prop := KX12 r.1 r.2.2 ∧ ((I 4).toInt = 0 ∨ (r.1 4).toInt ≠ 0) ∧ (I 7).toInt ≤ (r.1 7).toInt ∧ (PD f → PD (r.2.2 12))
theorem RP.of {I : Nat → Int32} {M : Nat → Nat → Int32} {r : (Nat → Int32) × Int64 × (Nat → Nat → Int32)} (h : NP I M r) : RP I (M 12) r := ⟨by rw [h.1]; exact h.2.2.1, h.2.2.2.1, h.2.2.2.2, by rw [h.1]; exact id⟩
theorem RP.tr {I f : Nat → Int32} {M : Nat → Nat → Int32} {r q : (Nat → Int32) × Int64 × (Nat → Nat → Int32)} (h : NP I M r) (g : RP r.1 f q) : RP I f q := ⟨g.1, by have a := h.2.2.2.1; have b := g.2.1; omega, by have a := h.2.2.2.2; have b := g.2.2.1; omega, g.2.2.2⟩
theorem RP.go {I J f : Nat → Int32} {q : (Nat → Int32) × Int64 × (Nat → Nat → Int32)} (a : (I 4).toInt = 0 ∨ (J 4).toInt ≠ 0) (b : (I 7).toInt ≤ (J 7).toInt) (g : RP J f q) : RP I f q := ⟨g.1, by have c := g.2.1; omega, by have c := g.2.2.1; omega, g.2.2.2⟩
theorem PD.um {f : Nat → Int32} (h : PD f) {i : Nat} {v : Int32} (hv : 1 ≤ v.toInt ∧ v.toInt ≤ 1000000) : PD (upd f i v) := by
  intro j hj
  unfold upd
  by_cases q : j = i
  · rw [if_pos q]; exact hv
  · rw [if_neg q]; exact h j hj
theorem tt_named {N : Nat} (hN : 3000000000 ≤ N) (I : Nat → Int32) (L : Int64) (M : Nat → Nat → Int32) (x1 x2 x3 : Int32) (k : KX12 I M) : wq (fX12_named N I L M x1 x2 x3) (fun r => NP I M r.2 ∧ ((r.2.1 4).toInt ≠ 0 ∨ (x2.toInt ≤ r.1.toInt ∧ r.1.toInt ≤ x3.toInt))) := by
  unfold fX12_named
  have hb : ∀ z : Int32, wq ((fX12_need N I L M z).bind fun r4 => (fX12_number N r4.1 r4.2.1 r4.2.2 x2 x3).bind fun r5 => some (r5.1, r5.2.1, r5.2.2.1, r5.2.2.2)) (fun r => NP I M r.2 ∧ ((r.2.1 4).toInt ≠ 0 ∨ (x2.toInt ≤ r.1.toInt ∧ r.1.toInt ≤ x3.toInt))) := by
    intro z
    refine wq_b (tt_need hN I L M z k) (fun r4 h4 => ?_)
    obtain ⟨h4, -⟩ := h4
    have e : r4.2.2 = M := h4.1
    rw [e]
    refine wq_b (tt_number hN r4.1 r4.2.1 M x2 x3 h4.2.2.1) (fun r5 h5 => ?_)
    obtain ⟨h5, g5⟩ := h5
    refine wq_s ⟨NP.tr h4 h5, ?_⟩
    rcases g5 with q | q
    · exact Or.inl q
    · exact Or.inr ⟨q.2.1, q.2.2.1⟩
  refine wq_b (tt_fX12_knownWord hN I L M k) (fun r1 h1 => ?_)
  exact wq_i (fun _ => hb 1) (fun _ => hb 0)
set_option maxHeartbeats 4000000 in
theorem tt_fX12_begins {N : Nat} (hN : 3000000000 ≤ N) (I0 : Nat → Int32) (L0 : Int64) (M0 : Nat → Nat → Int32) (x1 : Int32) (k_I0 : KX12 I0 M0) : wq (fX12_begins N I0 L0 M0 x1) (fun r => (0 ≤ r.1.toInt ∧ r.1.toInt ≤ 1) ∧ KX12 r.2.1 r.2.2.2 ∧ True) := by
  unfold fX12_begins
  have b_30151 := i32b x1
  have l_0 := il_0
  refine wq_lt (fun hc_30152 => ?_) (fun hc_30153 => ?_)
  · unfold fX12_begins_J17
    unfold fX12_begins_J18
    refine wq_eq (fun hc_30154 => ?_) (fun hc_30155 => ?_)
    · have t_30156 := KX12.i12 k_I0
      refine wq_eq (fun hc_30157 => ?_) (fun hc_30158 => ?_)
      · unfold fX12_begins_J36
        unfold fX12_begins_J37
        have l_1 := il_1
        refine wq_b (tt_fX12_right hN I0 L0 M0 (0 : Int32) (1 : Int32) ⟨by omega, by omega⟩ k_I0) (fun r1_q30159 h_r1_q30159 => ?_)
        obtain ⟨h_r1_q30159_0, h_r1_q30159_1, h_r1_q30159_2, h_r1_q30159_3, -⟩ := h_r1_q30159
        have t_30160 := KX12.i1 h_r1_q30159_3
        have t_30161 := KX12.i1 k_I0
        refine wq_eq (fun hc_30162 => ?_) (fun hc_30163 => ?_)
        · exact wq_s ⟨(show 0 ≤ (0 : Int32).toInt ∧ (0 : Int32).toInt ≤ 1 from ⟨by omega, by omega⟩), h_r1_q30159_3, trivial⟩
        · refine wq_v (fun I0_2_q30164 h_I0_2_q30164 => ?_)
          have k_I0_2_q30164 : KX12 I0_2_q30164 r1_q30159.2.2.2 := by rw [h_I0_2_q30164]; exact KX12.si3 h_r1_q30159_3 ⟨by omega, by omega⟩
          refine wq_v (fun I0_3_q30165 h_I0_3_q30165 => ?_)
          have k_I0_3_q30165 : KX12 I0_3_q30165 r1_q30159.2.2.2 := by rw [h_I0_3_q30165]; exact KX12.si5 k_I0_2_q30164
          refine wq_v (fun I0_4_q30166 h_I0_4_q30166 => ?_)
          have k_I0_4_q30166 : KX12 I0_4_q30166 r1_q30159.2.2.2 := by rw [h_I0_4_q30166]; exact KX12.si4 k_I0_3_q30165
          refine wq_v (fun I0_5_q30167 h_I0_5_q30167 => ?_)
          have k_I0_5_q30167 : KX12 I0_5_q30167 r1_q30159.2.2.2 := by rw [h_I0_5_q30167]; exact KX12.si6 k_I0_4_q30166 ⟨by omega, by omega⟩
          refine wq_v (fun I0_6_q30168 h_I0_6_q30168 => ?_)
          have k_I0_6_q30168 : KX12 I0_6_q30168 r1_q30159.2.2.2 := by rw [h_I0_6_q30168]; exact KX12.si7 k_I0_5_q30167 ⟨by omega, by omega⟩
          refine wq_b (tt_fX12_steps hN I0_6_q30168 r1_q30159.2.2.1 r1_q30159.2.2.2 k_I0_6_q30168) (fun r7_q30169 h_r7_q30169 => ?_)
          obtain ⟨h_r7_q30169_0, -⟩ := h_r7_q30169
          exact wq_s ⟨(show 0 ≤ (1 : Int32).toInt ∧ (1 : Int32).toInt ≤ 1 from ⟨by omega, by omega⟩), h_r7_q30169_0, trivial⟩
      · unfold fX12_begins_J37
        have l_2 := il_2
        refine wq_b (tt_fX12_right hN I0 L0 M0 (0 : Int32) (2 : Int32) ⟨by omega, by omega⟩ k_I0) (fun r1_q30170 h_r1_q30170 => ?_)
        obtain ⟨h_r1_q30170_0, h_r1_q30170_1, h_r1_q30170_2, h_r1_q30170_3, -⟩ := h_r1_q30170
        have t_30171 := KX12.i1 h_r1_q30170_3
        have t_30172 := KX12.i1 k_I0
        refine wq_eq (fun hc_30173 => ?_) (fun hc_30174 => ?_)
        · exact wq_s ⟨(show 0 ≤ (0 : Int32).toInt ∧ (0 : Int32).toInt ≤ 1 from ⟨by omega, by omega⟩), h_r1_q30170_3, trivial⟩
        · refine wq_v (fun I0_2_q30175 h_I0_2_q30175 => ?_)
          have k_I0_2_q30175 : KX12 I0_2_q30175 r1_q30170.2.2.2 := by rw [h_I0_2_q30175]; exact KX12.si3 h_r1_q30170_3 ⟨by omega, by omega⟩
          refine wq_v (fun I0_3_q30176 h_I0_3_q30176 => ?_)
          have k_I0_3_q30176 : KX12 I0_3_q30176 r1_q30170.2.2.2 := by rw [h_I0_3_q30176]; exact KX12.si5 k_I0_2_q30175
          refine wq_v (fun I0_4_q30177 h_I0_4_q30177 => ?_)
          have k_I0_4_q30177 : KX12 I0_4_q30177 r1_q30170.2.2.2 := by rw [h_I0_4_q30177]; exact KX12.si4 k_I0_3_q30176
          refine wq_v (fun I0_5_q30178 h_I0_5_q30178 => ?_)
          have k_I0_5_q30178 : KX12 I0_5_q30178 r1_q30170.2.2.2 := by rw [h_I0_5_q30178]; exact KX12.si6 k_I0_4_q30177 ⟨by omega, by omega⟩
          refine wq_v (fun I0_6_q30179 h_I0_6_q30179 => ?_)
          have k_I0_6_q30179 : KX12 I0_6_q30179 r1_q30170.2.2.2 := by rw [h_I0_6_q30179]; exact KX12.si7 k_I0_5_q30178 ⟨by omega, by omega⟩
          refine wq_b (tt_fX12_steps hN I0_6_q30179 r1_q30170.2.2.1 r1_q30170.2.2.2 k_I0_6_q30179) (fun r7_q30180 h_r7_q30180 => ?_)
          obtain ⟨h_r7_q30180_0, -⟩ := h_r7_q30180
          have l_1 := il_1
          exact wq_s ⟨(show 0 ≤ (1 : Int32).toInt ∧ (1 : Int32).toInt ≤ 1 from ⟨by omega, by omega⟩), h_r7_q30180_0, trivial⟩
    · unfold fX12_begins_J36
      unfold fX12_begins_J37
      have l_1 := il_1
      refine wq_b (tt_fX12_right hN I0 L0 M0 (0 : Int32) (1 : Int32) ⟨by omega, by omega⟩ k_I0) (fun r1_q30181 h_r1_q30181 => ?_)
      obtain ⟨h_r1_q30181_0, h_r1_q30181_1, h_r1_q30181_2, h_r1_q30181_3, -⟩ := h_r1_q30181
      have t_30182 := KX12.i1 h_r1_q30181_3
      have t_30183 := KX12.i1 k_I0
      refine wq_eq (fun hc_30184 => ?_) (fun hc_30185 => ?_)
      · exact wq_s ⟨(show 0 ≤ (0 : Int32).toInt ∧ (0 : Int32).toInt ≤ 1 from ⟨by omega, by omega⟩), h_r1_q30181_3, trivial⟩
      · refine wq_v (fun I0_2_q30186 h_I0_2_q30186 => ?_)
        have k_I0_2_q30186 : KX12 I0_2_q30186 r1_q30181.2.2.2 := by rw [h_I0_2_q30186]; exact KX12.si3 h_r1_q30181_3 ⟨by omega, by omega⟩
        refine wq_v (fun I0_3_q30187 h_I0_3_q30187 => ?_)
        have k_I0_3_q30187 : KX12 I0_3_q30187 r1_q30181.2.2.2 := by rw [h_I0_3_q30187]; exact KX12.si5 k_I0_2_q30186
        refine wq_v (fun I0_4_q30188 h_I0_4_q30188 => ?_)
        have k_I0_4_q30188 : KX12 I0_4_q30188 r1_q30181.2.2.2 := by rw [h_I0_4_q30188]; exact KX12.si4 k_I0_3_q30187
        refine wq_v (fun I0_5_q30189 h_I0_5_q30189 => ?_)
        have k_I0_5_q30189 : KX12 I0_5_q30189 r1_q30181.2.2.2 := by rw [h_I0_5_q30189]; exact KX12.si6 k_I0_4_q30188 ⟨by omega, by omega⟩
        refine wq_v (fun I0_6_q30190 h_I0_6_q30190 => ?_)
        have k_I0_6_q30190 : KX12 I0_6_q30190 r1_q30181.2.2.2 := by rw [h_I0_6_q30190]; exact KX12.si7 k_I0_5_q30189 ⟨by omega, by omega⟩
        refine wq_b (tt_fX12_steps hN I0_6_q30190 r1_q30181.2.2.1 r1_q30181.2.2.2 k_I0_6_q30190) (fun r7_q30191 h_r7_q30191 => ?_)
        obtain ⟨h_r7_q30191_0, -⟩ := h_r7_q30191
        exact wq_s ⟨(show 0 ≤ (1 : Int32).toInt ∧ (1 : Int32).toInt ≤ 1 from ⟨by omega, by omega⟩), h_r7_q30191_0, trivial⟩
  · have t_30192 := KX12.i3 k_I0
    refine wq_lt (fun hc_30193 => ?_) (fun hc_30194 => ?_)
    · unfold fX12_begins_J17
      unfold fX12_begins_J18
      refine wq_eq (fun hc_30195 => ?_) (fun hc_30196 => ?_)
      · have t_30197 := KX12.i12 k_I0
        refine wq_eq (fun hc_30198 => ?_) (fun hc_30199 => ?_)
        · unfold fX12_begins_J36
          unfold fX12_begins_J37
          have l_1 := il_1
          refine wq_b (tt_fX12_right hN I0 L0 M0 (0 : Int32) (1 : Int32) ⟨by omega, by omega⟩ k_I0) (fun r1_q30200 h_r1_q30200 => ?_)
          obtain ⟨h_r1_q30200_0, h_r1_q30200_1, h_r1_q30200_2, h_r1_q30200_3, -⟩ := h_r1_q30200
          have t_30201 := KX12.i1 h_r1_q30200_3
          have t_30202 := KX12.i1 k_I0
          refine wq_eq (fun hc_30203 => ?_) (fun hc_30204 => ?_)
          · exact wq_s ⟨(show 0 ≤ (0 : Int32).toInt ∧ (0 : Int32).toInt ≤ 1 from ⟨by omega, by omega⟩), h_r1_q30200_3, trivial⟩
          · refine wq_v (fun I0_2_q30205 h_I0_2_q30205 => ?_)
            have k_I0_2_q30205 : KX12 I0_2_q30205 r1_q30200.2.2.2 := by rw [h_I0_2_q30205]; exact KX12.si3 h_r1_q30200_3 ⟨by omega, by omega⟩
            refine wq_v (fun I0_3_q30206 h_I0_3_q30206 => ?_)
            have k_I0_3_q30206 : KX12 I0_3_q30206 r1_q30200.2.2.2 := by rw [h_I0_3_q30206]; exact KX12.si5 k_I0_2_q30205
            refine wq_v (fun I0_4_q30207 h_I0_4_q30207 => ?_)
            have k_I0_4_q30207 : KX12 I0_4_q30207 r1_q30200.2.2.2 := by rw [h_I0_4_q30207]; exact KX12.si4 k_I0_3_q30206
            refine wq_v (fun I0_5_q30208 h_I0_5_q30208 => ?_)
            have k_I0_5_q30208 : KX12 I0_5_q30208 r1_q30200.2.2.2 := by rw [h_I0_5_q30208]; exact KX12.si6 k_I0_4_q30207 ⟨by omega, by omega⟩
            refine wq_v (fun I0_6_q30209 h_I0_6_q30209 => ?_)
            have k_I0_6_q30209 : KX12 I0_6_q30209 r1_q30200.2.2.2 := by rw [h_I0_6_q30209]; exact KX12.si7 k_I0_5_q30208 ⟨by omega, by omega⟩
            refine wq_b (tt_fX12_steps hN I0_6_q30209 r1_q30200.2.2.1 r1_q30200.2.2.2 k_I0_6_q30209) (fun r7_q30210 h_r7_q30210 => ?_)
            obtain ⟨h_r7_q30210_0, -⟩ := h_r7_q30210
            exact wq_s ⟨(show 0 ≤ (1 : Int32).toInt ∧ (1 : Int32).toInt ≤ 1 from ⟨by omega, by omega⟩), h_r7_q30210_0, trivial⟩
        · unfold fX12_begins_J37
          have l_2 := il_2
          refine wq_b (tt_fX12_right hN I0 L0 M0 (0 : Int32) (2 : Int32) ⟨by omega, by omega⟩ k_I0) (fun r1_q30211 h_r1_q30211 => ?_)
          obtain ⟨h_r1_q30211_0, h_r1_q30211_1, h_r1_q30211_2, h_r1_q30211_3, -⟩ := h_r1_q30211
          have t_30212 := KX12.i1 h_r1_q30211_3
          have t_30213 := KX12.i1 k_I0
          refine wq_eq (fun hc_30214 => ?_) (fun hc_30215 => ?_)
          · exact wq_s ⟨(show 0 ≤ (0 : Int32).toInt ∧ (0 : Int32).toInt ≤ 1 from ⟨by omega, by omega⟩), h_r1_q30211_3, trivial⟩
          · refine wq_v (fun I0_2_q30216 h_I0_2_q30216 => ?_)
            have k_I0_2_q30216 : KX12 I0_2_q30216 r1_q30211.2.2.2 := by rw [h_I0_2_q30216]; exact KX12.si3 h_r1_q30211_3 ⟨by omega, by omega⟩
            refine wq_v (fun I0_3_q30217 h_I0_3_q30217 => ?_)
            have k_I0_3_q30217 : KX12 I0_3_q30217 r1_q30211.2.2.2 := by rw [h_I0_3_q30217]; exact KX12.si5 k_I0_2_q30216
            refine wq_v (fun I0_4_q30218 h_I0_4_q30218 => ?_)
            have k_I0_4_q30218 : KX12 I0_4_q30218 r1_q30211.2.2.2 := by rw [h_I0_4_q30218]; exact KX12.si4 k_I0_3_q30217
            refine wq_v (fun I0_5_q30219 h_I0_5_q30219 => ?_)
            have k_I0_5_q30219 : KX12 I0_5_q30219 r1_q30211.2.2.2 := by rw [h_I0_5_q30219]; exact KX12.si6 k_I0_4_q30218 ⟨by omega, by omega⟩
            refine wq_v (fun I0_6_q30220 h_I0_6_q30220 => ?_)
            have k_I0_6_q30220 : KX12 I0_6_q30220 r1_q30211.2.2.2 := by rw [h_I0_6_q30220]; exact KX12.si7 k_I0_5_q30219 ⟨by omega, by omega⟩
            refine wq_b (tt_fX12_steps hN I0_6_q30220 r1_q30211.2.2.1 r1_q30211.2.2.2 k_I0_6_q30220) (fun r7_q30221 h_r7_q30221 => ?_)
            obtain ⟨h_r7_q30221_0, -⟩ := h_r7_q30221
            have l_1 := il_1
            exact wq_s ⟨(show 0 ≤ (1 : Int32).toInt ∧ (1 : Int32).toInt ≤ 1 from ⟨by omega, by omega⟩), h_r7_q30221_0, trivial⟩
      · unfold fX12_begins_J36
        unfold fX12_begins_J37
        have l_1 := il_1
        refine wq_b (tt_fX12_right hN I0 L0 M0 (0 : Int32) (1 : Int32) ⟨by omega, by omega⟩ k_I0) (fun r1_q30222 h_r1_q30222 => ?_)
        obtain ⟨h_r1_q30222_0, h_r1_q30222_1, h_r1_q30222_2, h_r1_q30222_3, -⟩ := h_r1_q30222
        have t_30223 := KX12.i1 h_r1_q30222_3
        have t_30224 := KX12.i1 k_I0
        refine wq_eq (fun hc_30225 => ?_) (fun hc_30226 => ?_)
        · exact wq_s ⟨(show 0 ≤ (0 : Int32).toInt ∧ (0 : Int32).toInt ≤ 1 from ⟨by omega, by omega⟩), h_r1_q30222_3, trivial⟩
        · refine wq_v (fun I0_2_q30227 h_I0_2_q30227 => ?_)
          have k_I0_2_q30227 : KX12 I0_2_q30227 r1_q30222.2.2.2 := by rw [h_I0_2_q30227]; exact KX12.si3 h_r1_q30222_3 ⟨by omega, by omega⟩
          refine wq_v (fun I0_3_q30228 h_I0_3_q30228 => ?_)
          have k_I0_3_q30228 : KX12 I0_3_q30228 r1_q30222.2.2.2 := by rw [h_I0_3_q30228]; exact KX12.si5 k_I0_2_q30227
          refine wq_v (fun I0_4_q30229 h_I0_4_q30229 => ?_)
          have k_I0_4_q30229 : KX12 I0_4_q30229 r1_q30222.2.2.2 := by rw [h_I0_4_q30229]; exact KX12.si4 k_I0_3_q30228
          refine wq_v (fun I0_5_q30230 h_I0_5_q30230 => ?_)
          have k_I0_5_q30230 : KX12 I0_5_q30230 r1_q30222.2.2.2 := by rw [h_I0_5_q30230]; exact KX12.si6 k_I0_4_q30229 ⟨by omega, by omega⟩
          refine wq_v (fun I0_6_q30231 h_I0_6_q30231 => ?_)
          have k_I0_6_q30231 : KX12 I0_6_q30231 r1_q30222.2.2.2 := by rw [h_I0_6_q30231]; exact KX12.si7 k_I0_5_q30230 ⟨by omega, by omega⟩
          refine wq_b (tt_fX12_steps hN I0_6_q30231 r1_q30222.2.2.1 r1_q30222.2.2.2 k_I0_6_q30231) (fun r7_q30232 h_r7_q30232 => ?_)
          obtain ⟨h_r7_q30232_0, -⟩ := h_r7_q30232
          exact wq_s ⟨(show 0 ≤ (1 : Int32).toInt ∧ (1 : Int32).toInt ≤ 1 from ⟨by omega, by omega⟩), h_r7_q30232_0, trivial⟩
    · unfold fX12_begins_J18
      refine wq_eq (fun hc_30233 => ?_) (fun hc_30234 => ?_)
      · have t_30235 := KX12.i12 k_I0
        refine wq_eq (fun hc_30236 => ?_) (fun hc_30237 => ?_)
        · unfold fX12_begins_J36
          unfold fX12_begins_J37
          have l_1 := il_1
          refine wq_b (tt_fX12_right hN I0 L0 M0 (1 : Int32) (1 : Int32) ⟨by omega, by omega⟩ k_I0) (fun r1_q30238 h_r1_q30238 => ?_)
          obtain ⟨h_r1_q30238_0, h_r1_q30238_1, h_r1_q30238_2, h_r1_q30238_3, -⟩ := h_r1_q30238
          have t_30239 := KX12.i1 h_r1_q30238_3
          have t_30240 := KX12.i1 k_I0
          refine wq_eq (fun hc_30241 => ?_) (fun hc_30242 => ?_)
          · exact wq_s ⟨(show 0 ≤ (0 : Int32).toInt ∧ (0 : Int32).toInt ≤ 1 from ⟨by omega, by omega⟩), h_r1_q30238_3, trivial⟩
          · refine wq_v (fun I0_2_q30243 h_I0_2_q30243 => ?_)
            have k_I0_2_q30243 : KX12 I0_2_q30243 r1_q30238.2.2.2 := by rw [h_I0_2_q30243]; exact KX12.si3 h_r1_q30238_3 ⟨by omega, by omega⟩
            refine wq_v (fun I0_3_q30244 h_I0_3_q30244 => ?_)
            have k_I0_3_q30244 : KX12 I0_3_q30244 r1_q30238.2.2.2 := by rw [h_I0_3_q30244]; exact KX12.si5 k_I0_2_q30243
            refine wq_v (fun I0_4_q30245 h_I0_4_q30245 => ?_)
            have k_I0_4_q30245 : KX12 I0_4_q30245 r1_q30238.2.2.2 := by rw [h_I0_4_q30245]; exact KX12.si4 k_I0_3_q30244
            refine wq_v (fun I0_5_q30246 h_I0_5_q30246 => ?_)
            have k_I0_5_q30246 : KX12 I0_5_q30246 r1_q30238.2.2.2 := by rw [h_I0_5_q30246]; exact KX12.si6 k_I0_4_q30245 ⟨by omega, by omega⟩
            refine wq_v (fun I0_6_q30247 h_I0_6_q30247 => ?_)
            have k_I0_6_q30247 : KX12 I0_6_q30247 r1_q30238.2.2.2 := by rw [h_I0_6_q30247]; exact KX12.si7 k_I0_5_q30246 ⟨by omega, by omega⟩
            refine wq_b (tt_fX12_steps hN I0_6_q30247 r1_q30238.2.2.1 r1_q30238.2.2.2 k_I0_6_q30247) (fun r7_q30248 h_r7_q30248 => ?_)
            obtain ⟨h_r7_q30248_0, -⟩ := h_r7_q30248
            exact wq_s ⟨(show 0 ≤ (1 : Int32).toInt ∧ (1 : Int32).toInt ≤ 1 from ⟨by omega, by omega⟩), h_r7_q30248_0, trivial⟩
        · unfold fX12_begins_J37
          have l_1 := il_1
          have l_2 := il_2
          refine wq_b (tt_fX12_right hN I0 L0 M0 (1 : Int32) (2 : Int32) ⟨by omega, by omega⟩ k_I0) (fun r1_q30249 h_r1_q30249 => ?_)
          obtain ⟨h_r1_q30249_0, h_r1_q30249_1, h_r1_q30249_2, h_r1_q30249_3, -⟩ := h_r1_q30249
          have t_30250 := KX12.i1 h_r1_q30249_3
          have t_30251 := KX12.i1 k_I0
          refine wq_eq (fun hc_30252 => ?_) (fun hc_30253 => ?_)
          · exact wq_s ⟨(show 0 ≤ (0 : Int32).toInt ∧ (0 : Int32).toInt ≤ 1 from ⟨by omega, by omega⟩), h_r1_q30249_3, trivial⟩
          · refine wq_v (fun I0_2_q30254 h_I0_2_q30254 => ?_)
            have k_I0_2_q30254 : KX12 I0_2_q30254 r1_q30249.2.2.2 := by rw [h_I0_2_q30254]; exact KX12.si3 h_r1_q30249_3 ⟨by omega, by omega⟩
            refine wq_v (fun I0_3_q30255 h_I0_3_q30255 => ?_)
            have k_I0_3_q30255 : KX12 I0_3_q30255 r1_q30249.2.2.2 := by rw [h_I0_3_q30255]; exact KX12.si5 k_I0_2_q30254
            refine wq_v (fun I0_4_q30256 h_I0_4_q30256 => ?_)
            have k_I0_4_q30256 : KX12 I0_4_q30256 r1_q30249.2.2.2 := by rw [h_I0_4_q30256]; exact KX12.si4 k_I0_3_q30255
            refine wq_v (fun I0_5_q30257 h_I0_5_q30257 => ?_)
            have k_I0_5_q30257 : KX12 I0_5_q30257 r1_q30249.2.2.2 := by rw [h_I0_5_q30257]; exact KX12.si6 k_I0_4_q30256 ⟨by omega, by omega⟩
            refine wq_v (fun I0_6_q30258 h_I0_6_q30258 => ?_)
            have k_I0_6_q30258 : KX12 I0_6_q30258 r1_q30249.2.2.2 := by rw [h_I0_6_q30258]; exact KX12.si7 k_I0_5_q30257 ⟨by omega, by omega⟩
            refine wq_b (tt_fX12_steps hN I0_6_q30258 r1_q30249.2.2.1 r1_q30249.2.2.2 k_I0_6_q30258) (fun r7_q30259 h_r7_q30259 => ?_)
            obtain ⟨h_r7_q30259_0, -⟩ := h_r7_q30259
            exact wq_s ⟨(show 0 ≤ (1 : Int32).toInt ∧ (1 : Int32).toInt ≤ 1 from ⟨by omega, by omega⟩), h_r7_q30259_0, trivial⟩
      · unfold fX12_begins_J36
        unfold fX12_begins_J37
        have l_1 := il_1
        refine wq_b (tt_fX12_right hN I0 L0 M0 (1 : Int32) (1 : Int32) ⟨by omega, by omega⟩ k_I0) (fun r1_q30260 h_r1_q30260 => ?_)
        obtain ⟨h_r1_q30260_0, h_r1_q30260_1, h_r1_q30260_2, h_r1_q30260_3, -⟩ := h_r1_q30260
        have t_30261 := KX12.i1 h_r1_q30260_3
        have t_30262 := KX12.i1 k_I0
        refine wq_eq (fun hc_30263 => ?_) (fun hc_30264 => ?_)
        · exact wq_s ⟨(show 0 ≤ (0 : Int32).toInt ∧ (0 : Int32).toInt ≤ 1 from ⟨by omega, by omega⟩), h_r1_q30260_3, trivial⟩
        · refine wq_v (fun I0_2_q30265 h_I0_2_q30265 => ?_)
          have k_I0_2_q30265 : KX12 I0_2_q30265 r1_q30260.2.2.2 := by rw [h_I0_2_q30265]; exact KX12.si3 h_r1_q30260_3 ⟨by omega, by omega⟩
          refine wq_v (fun I0_3_q30266 h_I0_3_q30266 => ?_)
          have k_I0_3_q30266 : KX12 I0_3_q30266 r1_q30260.2.2.2 := by rw [h_I0_3_q30266]; exact KX12.si5 k_I0_2_q30265
          refine wq_v (fun I0_4_q30267 h_I0_4_q30267 => ?_)
          have k_I0_4_q30267 : KX12 I0_4_q30267 r1_q30260.2.2.2 := by rw [h_I0_4_q30267]; exact KX12.si4 k_I0_3_q30266
          refine wq_v (fun I0_5_q30268 h_I0_5_q30268 => ?_)
          have k_I0_5_q30268 : KX12 I0_5_q30268 r1_q30260.2.2.2 := by rw [h_I0_5_q30268]; exact KX12.si6 k_I0_4_q30267 ⟨by omega, by omega⟩
          refine wq_v (fun I0_6_q30269 h_I0_6_q30269 => ?_)
          have k_I0_6_q30269 : KX12 I0_6_q30269 r1_q30260.2.2.2 := by rw [h_I0_6_q30269]; exact KX12.si7 k_I0_5_q30268 ⟨by omega, by omega⟩
          refine wq_b (tt_fX12_steps hN I0_6_q30269 r1_q30260.2.2.1 r1_q30260.2.2.2 k_I0_6_q30269) (fun r7_q30270 h_r7_q30270 => ?_)
          obtain ⟨h_r7_q30270_0, -⟩ := h_r7_q30270
          exact wq_s ⟨(show 0 ≤ (1 : Int32).toInt ∧ (1 : Int32).toInt ≤ 1 from ⟨by omega, by omega⟩), h_r7_q30270_0, trivial⟩
theorem tt_rs102 (N : Nat) (I : Nat → Int32) (L : Int64) (M : Nat → Nat → Int32) (y1 y2 y3 y4 y5 y6 : Int32) (k : KX12 I M) (h : (I 4).toInt ≠ 0 ∨ ((0 ≤ y1.toInt ∧ y1.toInt ≤ 3) ∧ (0 ≤ y2.toInt ∧ y2.toInt ≤ 6) ∧ (1 ≤ y6.toInt ∧ y6.toInt ≤ 1000000))) : wq (fX12_readsSet_J102 N I L M y1 y2 y3 y4 y5 y6) (RP I (M 12)) := by
  unfold fX12_readsSet_J102
  have l_0 := il_0
  have l_7 := il_7
  refine wq_b (tt_good N I L M) (fun r1 h1 => ?_)
  refine wq_eq (fun hc => ?_) (fun hc => ?_)
  · exact wq_s (RP.of (M := M) (NP.rf k))
  · have hh : (0 ≤ y1.toInt ∧ y1.toInt ≤ 3) ∧ (0 ≤ y2.toInt ∧ y2.toInt ≤ 6) ∧ (1 ≤ y6.toInt ∧ y6.toInt ≤ 1000000) := by
      rcases h with q | q
      · exact absurd q (by omega)
      · exact q
    have ta := ia_mul (7 : Int32) 7 il_7 y1 (by omega) (by omega)
    have tb := ia_add ((7 : Int32) * y1) y2 (by omega) (by omega)
    refine wq_in (n := 28) ⟨by omega, by omega⟩ (wq_v (fun M2 e2 => ?_))
    refine wq_in (n := 28) ⟨by omega, by omega⟩ (wq_v (fun M3 e3 => ?_))
    refine wq_in (n := 28) ⟨by omega, by omega⟩ (wq_v (fun M4 e4 => ?_))
    refine wq_in (n := 28) ⟨by omega, by omega⟩ (wq_v (fun M5 e5 => ?_))
    subst e2
    subst e3
    subst e4
    subst e5
    exact wq_s ⟨KX12.sm12 (KX12.sm11 (KX12.sm10 (KX12.sm9 k))) ⟨by omega, by omega⟩, by show _ ∨ (I 4).toInt ≠ 0; omega, Int.le_refl _, fun h => PD.um h hh.2.2⟩

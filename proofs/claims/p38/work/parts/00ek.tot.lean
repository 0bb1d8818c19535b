set_option maxHeartbeats 4000000 in
theorem tt_fX12_letters {N : Nat} (hN : 3000000000 ≤ N) (x0 : Int32)  : wq (fX12_letters N x0) (fun r => True) := by
  unfold fX12_letters
  have b_24281 := i32b x0
  have l_0 := il_0
  refine wq_eq (fun hc_24282 => ?_) (fun hc_24283 => ?_)
  · have l_115 := il_115
    have l_117 := il_117
    have l_110 := il_110
    refine wq_b (tt_fX12_spelled hN (115 : Int32) (117 : Int32) (110 : Int32) (0 : Int32) (0 : Int32) (0 : Int32) (0 : Int32)) (fun r1_q24284 h_r1_q24284 => ?_)
    obtain ⟨-⟩ := h_r1_q24284
    exact wq_s trivial
  · have l_1 := il_1
    refine wq_eq (fun hc_24285 => ?_) (fun hc_24286 => ?_)
    · have l_109 := il_109
      have l_111 := il_111
      have l_110 := il_110
      refine wq_b (tt_fX12_spelled hN (109 : Int32) (111 : Int32) (111 : Int32) (110 : Int32) (0 : Int32) (0 : Int32) (0 : Int32)) (fun r2_q24287 h_r2_q24287 => ?_)
      obtain ⟨-⟩ := h_r2_q24287
      exact wq_s trivial
    · have l_2 := il_2
      refine wq_eq (fun hc_24288 => ?_) (fun hc_24289 => ?_)
      · have l_109 := il_109
        have l_101 := il_101
        have l_114 := il_114
        have l_99 := il_99
        have l_117 := il_117
        have l_121 := il_121
        refine wq_b (tt_fX12_spelled hN (109 : Int32) (101 : Int32) (114 : Int32) (99 : Int32) (117 : Int32) (114 : Int32) (121 : Int32)) (fun r3_q24290 h_r3_q24290 => ?_)
        obtain ⟨-⟩ := h_r3_q24290
        exact wq_s trivial
      · have l_3 := il_3
        refine wq_eq (fun hc_24291 => ?_) (fun hc_24292 => ?_)
        · have l_118 := il_118
          have l_101 := il_101
          have l_110 := il_110
          have l_117 := il_117
          have l_115 := il_115
          refine wq_b (tt_fX12_spelled hN (118 : Int32) (101 : Int32) (110 : Int32) (117 : Int32) (115 : Int32) (0 : Int32) (0 : Int32)) (fun r4_q24293 h_r4_q24293 => ?_)
          obtain ⟨-⟩ := h_r4_q24293
          exact wq_s trivial
        · have l_4 := il_4
          refine wq_eq (fun hc_24294 => ?_) (fun hc_24295 => ?_)
          · have l_109 := il_109
            have l_97 := il_97
            have l_114 := il_114
            have l_115 := il_115
            refine wq_b (tt_fX12_spelled hN (109 : Int32) (97 : Int32) (114 : Int32) (115 : Int32) (0 : Int32) (0 : Int32) (0 : Int32)) (fun r5_q24296 h_r5_q24296 => ?_)
            obtain ⟨-⟩ := h_r5_q24296
            exact wq_s trivial
          · have l_5 := il_5
            refine wq_eq (fun hc_24297 => ?_) (fun hc_24298 => ?_)
            · have l_106 := il_106
              have l_117 := il_117
              have l_112 := il_112
              have l_105 := il_105
              have l_116 := il_116
              have l_101 := il_101
              have l_114 := il_114
              refine wq_b (tt_fX12_spelled hN (106 : Int32) (117 : Int32) (112 : Int32) (105 : Int32) (116 : Int32) (101 : Int32) (114 : Int32)) (fun r6_q24299 h_r6_q24299 => ?_)
              obtain ⟨-⟩ := h_r6_q24299
              exact wq_s trivial
            · have l_6 := il_6
              refine wq_eq (fun hc_24300 => ?_) (fun hc_24301 => ?_)
              · have l_115 := il_115
                have l_97 := il_97
                have l_116 := il_116
                have l_117 := il_117
                have l_114 := il_114
                have l_110 := il_110
                refine wq_b (tt_fX12_spelled hN (115 : Int32) (97 : Int32) (116 : Int32) (117 : Int32) (114 : Int32) (110 : Int32) (0 : Int32)) (fun r7_q24302 h_r7_q24302 => ?_)
                obtain ⟨-⟩ := h_r7_q24302
                exact wq_s trivial
              · have l_7 := il_7
                refine wq_eq (fun hc_24303 => ?_) (fun hc_24304 => ?_)
                · have l_114 := il_114
                  have l_105 := il_105
                  have l_115 := il_115
                  have l_101 := il_101
                  refine wq_b (tt_fX12_spelled hN (114 : Int32) (105 : Int32) (115 : Int32) (101 : Int32) (0 : Int32) (0 : Int32) (0 : Int32)) (fun r8_q24305 h_r8_q24305 => ?_)
                  obtain ⟨-⟩ := h_r8_q24305
                  exact wq_s trivial
                · have l_8 := il_8
                  refine wq_eq (fun hc_24306 => ?_) (fun hc_24307 => ?_)
                  · have l_108 := il_108
                    have l_111 := il_111
                    have l_116 := il_116
                    refine wq_b (tt_fX12_spelled hN (108 : Int32) (111 : Int32) (116 : Int32) (0 : Int32) (0 : Int32) (0 : Int32) (0 : Int32)) (fun r9b_q24308 h_r9b_q24308 => ?_)
                    obtain ⟨-⟩ := h_r9b_q24308
                    exact wq_s trivial
                  · have l_9 := il_9
                    refine wq_eq (fun hc_24309 => ?_) (fun hc_24310 => ?_)
                    · have l_104 := il_104
                      have l_111 := il_111
                      have l_117 := il_117
                      have l_115 := il_115
                      have l_101 := il_101
                      refine wq_b (tt_fX12_spelled hN (104 : Int32) (111 : Int32) (117 : Int32) (115 : Int32) (101 : Int32) (0 : Int32) (0 : Int32)) (fun r10_q24311 h_r10_q24311 => ?_)
                      obtain ⟨-⟩ := h_r10_q24311
                      exact wq_s trivial
                    · have l_10 := il_10
                      refine wq_eq (fun hc_24312 => ?_) (fun hc_24313 => ?_)
                      · have l_100 := il_100
                        have l_97 := il_97
                        have l_116 := il_116
                        have l_101 := il_101
                        refine wq_b (tt_fX12_spelled hN (100 : Int32) (97 : Int32) (116 : Int32) (101 : Int32) (0 : Int32) (0 : Int32) (0 : Int32)) (fun r11_q24314 h_r11_q24314 => ?_)
                        obtain ⟨-⟩ := h_r11_q24314
                        exact wq_s trivial
                      · have l_11 := il_11
                        refine wq_eq (fun hc_24315 => ?_) (fun hc_24316 => ?_)
                        · have l_115 := il_115
                          have l_101 := il_101
                          have l_116 := il_116
                          refine wq_b (tt_fX12_spelled hN (115 : Int32) (101 : Int32) (116 : Int32) (0 : Int32) (0 : Int32) (0 : Int32) (0 : Int32)) (fun r12_q24317 h_r12_q24317 => ?_)
                          obtain ⟨-⟩ := h_r12_q24317
                          exact wq_s trivial
                        · have l_12 := il_12
                          refine wq_eq (fun hc_24318 => ?_) (fun hc_24319 => ?_)
                          · have l_97 := il_97
                            have l_116 := il_116
                            refine wq_b (tt_fX12_spelled hN (97 : Int32) (116 : Int32) (0 : Int32) (0 : Int32) (0 : Int32) (0 : Int32) (0 : Int32)) (fun r13_q24320 h_r13_q24320 => ?_)
                            obtain ⟨-⟩ := h_r13_q24320
                            exact wq_s trivial
                          · have l_13 := il_13
                            refine wq_eq (fun hc_24321 => ?_) (fun hc_24322 => ?_)
                            · have l_103 := il_103
                              have l_111 := il_111
                              have l_101 := il_101
                              have l_115 := il_115
                              refine wq_b (tt_fX12_spelled hN (103 : Int32) (111 : Int32) (101 : Int32) (115 : Int32) (0 : Int32) (0 : Int32) (0 : Int32)) (fun r14_q24323 h_r14_q24323 => ?_)
                              obtain ⟨-⟩ := h_r14_q24323
                              exact wq_s trivial
                            · have l_14 := il_14
                              refine wq_eq (fun hc_24324 => ?_) (fun hc_24325 => ?_)
                              · have l_115 := il_115
                                have l_119 := il_119
                                have l_105 := il_105
                                have l_110 := il_110
                                have l_103 := il_103
                                refine wq_b (tt_fX12_spelled hN (115 : Int32) (119 : Int32) (105 : Int32) (110 : Int32) (103 : Int32) (0 : Int32) (0 : Int32)) (fun r15_q24326 h_r15_q24326 => ?_)
                                obtain ⟨-⟩ := h_r15_q24326
                                exact wq_s trivial
                              · have l_15 := il_15
                                refine wq_eq (fun hc_24327 => ?_) (fun hc_24328 => ?_)
                                · have l_105 := il_105
                                  have l_110 := il_110
                                  refine wq_b (tt_fX12_spelled hN (105 : Int32) (110 : Int32) (0 : Int32) (0 : Int32) (0 : Int32) (0 : Int32) (0 : Int32)) (fun r16_q24329 h_r16_q24329 => ?_)
                                  obtain ⟨-⟩ := h_r16_q24329
                                  exact wq_s trivial
                                · have l_16 := il_16
                                  refine wq_eq (fun hc_24330 => ?_) (fun hc_24331 => ?_)
                                  · have l_99 := il_99
                                    have l_108 := il_108
                                    have l_105 := il_105
                                    have l_109 := il_109
                                    have l_97 := il_97
                                    have l_116 := il_116
                                    have l_101 := il_101
                                    refine wq_b (tt_fX12_spelled hN (99 : Int32) (108 : Int32) (105 : Int32) (109 : Int32) (97 : Int32) (116 : Int32) (101 : Int32)) (fun r17_q24332 h_r17_q24332 => ?_)
                                    obtain ⟨-⟩ := h_r17_q24332
                                    exact wq_s trivial
                                  · have l_17 := il_17
                                    refine wq_eq (fun hc_24333 => ?_) (fun hc_24334 => ?_)
                                    · have l_104 := il_104
                                      have l_97 := il_97
                                      have l_110 := il_110
                                      have l_100 := il_100
                                      refine wq_b (tt_fX12_spelled hN (104 : Int32) (97 : Int32) (110 : Int32) (100 : Int32) (0 : Int32) (0 : Int32) (0 : Int32)) (fun r18_q24335 h_r18_q24335 => ?_)
                                      obtain ⟨-⟩ := h_r18_q24335
                                      exact wq_s trivial
                                    · have l_102 := il_102
                                      have l_111 := il_111
                                      have l_114 := il_114
                                      refine wq_b (tt_fX12_spelled hN (102 : Int32) (111 : Int32) (114 : Int32) (0 : Int32) (0 : Int32) (0 : Int32) (0 : Int32)) (fun r19_q24336 h_r19_q24336 => ?_)
                                      obtain ⟨-⟩ := h_r19_q24336
                                      exact wq_s trivial
set_option maxHeartbeats 4000000 in
theorem tt_fX12_knownWord_L21 {N : Nat} (hN : 3000000000 ≤ N) (I0 : Nat → Int32) (L0 : Int64) (M0 : Nat → Nat → Int32) (k_I0 : KX12 I0 M0)  : ∀ (fu : Nat) (y21_1 : Int32), (0 ≤ y21_1.toInt ∧ y21_1.toInt ≤ 19) → (19 - y21_1.toInt) < (fu : Int) → wq (fX12_knownWord_L21 N I0 L0 M0 fu y21_1) (fun r => (-1 ≤ r.toInt ∧ r.toInt ≤ 18) ∧ True) := by
  intro fu
  induction fu with
  | zero => intro y21_1 h_y21_1 hm; exfalso; omega
  | succ fu ih =>
    intro y21_1 h_y21_1 hm
    rw [fX12_knownWord_L21.eq_2]
    have l_19 := il_19
    refine wq_le (fun hc_24480 => ?_) (fun hc_24481 => ?_)
    · have l_m1 := il_m1
      exact wq_s ⟨(show -1 ≤ (-1 : Int32).toInt ∧ (-1 : Int32).toInt ≤ 18 from ⟨by omega, by omega⟩), trivial⟩
    · refine wq_b (tt_fX12_letters hN y21_1) (fun r1_q24482 h_r1_q24482 => ?_)
      obtain ⟨-⟩ := h_r1_q24482
      have l_0 := il_0
      refine wq_eq (fun hc_24483 => ?_) (fun hc_24484 => ?_)
      · exact wq_s ⟨(show -1 ≤ y21_1.toInt ∧ y21_1.toInt ≤ 18 from ⟨by omega, by omega⟩), trivial⟩
      · have l_1 := il_1
        have t_24486 := ia_add y21_1 (1 : Int32) (by omega) (by omega)
        refine wq_v (fun v2_q24485 h_v2_q24485 => ?_)
        have t_v2_q24485 := congrArg Int32.toInt h_v2_q24485
        exact ih v2_q24485 ⟨by omega, by omega⟩ (by omega)
set_option maxHeartbeats 4000000 in
theorem tt_fX12_knownWord {N : Nat} (hN : 3000000000 ≤ N) (I0 : Nat → Int32) (L0 : Int64) (M0 : Nat → Nat → Int32) (k_I0 : KX12 I0 M0) : wq (fX12_knownWord N I0 L0 M0) (fun r => (-1 ≤ r.toInt ∧ r.toInt ≤ 18) ∧ True) := by
  unfold fX12_knownWord
  have l_1 := il_1
  refine wq_eq (fun hc_24487 => ?_) (fun hc_24488 => ?_)
  · have l_7 := il_7
    refine wq_le (fun hc_24489 => ?_) (fun hc_24490 => ?_)
    · have l_0 := il_0
      exact tt_fX12_knownWord_L21 hN I0 L0 M0 k_I0 N (0 : Int32) ⟨by omega, by omega⟩ (by omega)
    · have l_m1 := il_m1
      exact wq_s ⟨(show -1 ≤ (-1 : Int32).toInt ∧ (-1 : Int32).toInt ≤ 18 from ⟨by omega, by omega⟩), trivial⟩
  · have l_m1 := il_m1
    exact wq_s ⟨(show -1 ≤ (-1 : Int32).toInt ∧ (-1 : Int32).toInt ≤ 18 from ⟨by omega, by omega⟩), trivial⟩
/-- a call that reads: rows stay, only the text's ints move, a fault stays -/
def NP (I : Nat → Int32) (M : Nat → Nat → Int32) (r : (Nat → Int32) × Int64 × (Nat → Nat → Int32)) : Prop := r.2.2 = M ∧ FR I r.1 ∧ KX12 r.1 M ∧ ((I 4).toInt = 0 ∨ (r.1 4).toInt ≠ 0) ∧ (I 7).toInt ≤ (r.1 7).toInt
theorem NP.of {I : Nat → Int32} {M : Nat → Nat → Int32} {r : (Nat → Int32) × Int64 × (Nat → Nat → Int32)} (h : SP I M r) : NP I M r := ⟨h.1, h.2.1, h.2.2.2.2.1, by rw [h.2.2.1]; omega, h.2.2.2.2.2.1⟩
theorem NP.tr {I : Nat → Int32} {M : Nat → Nat → Int32} {r q : (Nat → Int32) × Int64 × (Nat → Nat → Int32)} (h : NP I M r) (g : NP r.1 M q) : NP I M q := ⟨g.1, h.2.1.tr g.2.1, g.2.2.1, by have a := h.2.2.2.1; have b := g.2.2.2.1; omega, by have a := h.2.2.2.2; have b := g.2.2.2.2; omega⟩
theorem NP.rf {I : Nat → Int32} {L : Int64} {M : Nat → Nat → Int32} (k : KX12 I M) : NP I M (I, L, M) := ⟨rfl, FR.rf I, k, by show _ ∨ (I 4).toInt ≠ 0; omega, Int.le_refl _⟩
theorem tt_wrong (N : Nat) (I : Nat → Int32) (L : Int64) (M : Nat → Nat → Int32) (x : Int32) (hx : x.toInt ≠ 0) (k : KX12 I M) : wq (fX12_wrong N I L M x) (fun r => NP I M r ∧ (r.1 4).toInt ≠ 0) := by
  unfold fX12_wrong
  have l_0 := il_0
  refine wq_eq (fun hc => ?_) (fun hc => ?_)
  · refine wq_v (fun J e => ?_)
    refine wq_v (fun J2 e2 => ?_)
    subst e
    subst e2
    refine wq_s ⟨⟨rfl, ((FR.rf I).up (by omega)).up (by omega), KX12.si5 (KX12.si4 k), Or.inr hx, Int.le_refl _⟩, hx⟩
  · exact wq_s ⟨NP.rf k, by show (I 4).toInt ≠ 0; omega⟩
theorem tt_fX12_wrong {N : Nat} (hN : 3000000000 ≤ N) (I0 : Nat → Int32) (L0 : Int64) (M0 : Nat → Nat → Int32) (x1 : Int32) (k_I0 : KX12 I0 M0) : wq (fX12_wrong N I0 L0 M0 x1) (fun r => KX12 r.1 r.2.2 ∧ True) := by
  unfold fX12_wrong
  refine wq_i (fun _ => ?_) (fun _ => ?_)
  · refine wq_v (fun J e => ?_)
    refine wq_v (fun J2 e2 => ?_)
    subst e
    subst e2
    exact wq_s ⟨KX12.si5 (KX12.si4 k_I0), trivial⟩
  · exact wq_s ⟨k_I0, trivial⟩
set_option maxHeartbeats 4000000 in
theorem tt_fX12_isGood {N : Nat} (hN : 3000000000 ≤ N) (I0 : Nat → Int32) (L0 : Int64) (M0 : Nat → Nat → Int32) (k_I0 : KX12 I0 M0) : wq (fX12_isGood N I0 L0 M0) (fun r => (0 ≤ r.toInt ∧ r.toInt ≤ 1) ∧ True) := by
  unfold fX12_isGood
  have l_0 := il_0
  refine wq_eq (fun hc_24503 => ?_) (fun hc_24504 => ?_)
  · have l_1 := il_1
    exact wq_s ⟨(show 0 ≤ (1 : Int32).toInt ∧ (1 : Int32).toInt ≤ 1 from ⟨by omega, by omega⟩), trivial⟩
  · exact wq_s ⟨(show 0 ≤ (0 : Int32).toInt ∧ (0 : Int32).toInt ≤ 1 from ⟨by omega, by omega⟩), trivial⟩
theorem tt_good (N : Nat) (I : Nat → Int32) (L : Int64) (M : Nat → Nat → Int32) : wq (fX12_isGood N I L M) (fun r => (r.toInt = 0 ∧ (I 4).toInt ≠ 0) ∨ (r.toInt = 1 ∧ (I 4).toInt = 0)) := by
  unfold fX12_isGood
  have l_0 := il_0
  have l_1 := il_1
  refine wq_eq (fun hc => ?_) (fun hc => ?_)
  · exact wq_s (by omega)
  · exact wq_s (by omega)
theorem tt_need {N : Nat} (hN : 3000000000 ≤ N) (I : Nat → Int32) (L : Int64) (M : Nat → Nat → Int32) (x : Int32) (k : KX12 I M) : wq (fX12_need N I L M x) (fun r => NP I M r ∧ ((r.1 4).toInt ≠ 0 ∨ (x.toInt ≠ 0 ∧ ((r.1 8).toInt = 0 ∨ (I 7).toInt < (r.1 7).toInt)))) := by
  unfold fX12_need
  have l_0 := il_0
  refine wq_b (tt_good N I L M) (fun r1 h1 => ?_)
  refine wq_eq (fun hc => ?_) (fun hc => ?_)
  · exact wq_s ⟨NP.rf k, Or.inl (by show (I 4).toInt ≠ 0; omega)⟩
  · refine wq_eq (fun hc2 => ?_) (fun hc2 => ?_)
    · refine wq_b (tt_wrong N I L M 1 (by decide) k) (fun r2 h2 => ?_)
      exact wq_s ⟨h2.1, Or.inl h2.2⟩
    · refine wq_b (tt_steps hN I L M k) (fun r3 h3 => ?_)
      exact wq_s ⟨NP.of h3, Or.inr ⟨by omega, h3.2.2.2.2.2.2⟩⟩
theorem tt_fX12_need {N : Nat} (hN : 3000000000 ≤ N) (I0 : Nat → Int32) (L0 : Int64) (M0 : Nat → Nat → Int32) (x1 : Int32) (k_I0 : KX12 I0 M0) : wq (fX12_need N I0 L0 M0 x1) (fun r => KX12 r.1 r.2.2 ∧ True) := wq_w (tt_need hN I0 L0 M0 x1 k_I0) (fun r h => by rw [h.1.1]; exact ⟨h.1.2.2.1, trivial⟩)
theorem tt_num55 {N : Nat} (hN : 3000000000 ≤ N) (I0 I : Nat → Int32) (L : Int64) (M : Nat → Nat → Int32) (x1 x2 : Int32) (P : Int32 → Prop) (h : NP I0 M (I, L, M)) (hp : (I 4).toInt ≠ 0 ∨ P (I 11)) : wq (fX12_number_J55 N x1 x2 I L M) (fun r => NP I0 M r.2 ∧ ((r.2.1 4).toInt ≠ 0 ∨ P r.1)) := by
  unfold fX12_number_J55
  have l_0 := il_0
  refine wq_v (fun v e => ?_)
  subst e
  refine wq_b (tt_good N I L M) (fun r1 h1 => ?_)
  refine wq_eq (fun hc => ?_) (fun hc => ?_)
  · exact wq_s ⟨h, hp⟩
  · refine wq_b (tt_steps hN I L M h.2.2.1) (fun r3 h3 => ?_)
    refine wq_s ⟨NP.tr h (NP.of h3), ?_⟩
    rcases hp with q | q
    · exact absurd q (by omega)
    · exact Or.inr q
theorem tt_number {N : Nat} (hN : 3000000000 ≤ N) (I : Nat → Int32) (L : Int64) (M : Nat → Nat → Int32) (x1 x2 : Int32) (k : KX12 I M) : wq (fX12_number N I L M x1 x2) (fun r => NP I M r.2 ∧ ((r.2.1 4).toInt ≠ 0 ∨ (r.1 = I 11 ∧ x1.toInt ≤ r.1.toInt ∧ r.1.toInt ≤ x2.toInt ∧ (I 8).toInt = 2 ∧ (I 10).toInt ≤ 7))) := by
  unfold fX12_number
  have l_0 := il_0
  have l_2 := il_2
  have l_7 := il_7
  have h50 : wq (fX12_number_J50 N x1 x2 I L M) (fun r => NP I M r.2 ∧ ((r.2.1 4).toInt ≠ 0 ∨ (r.1 = I 11 ∧ x1.toInt ≤ r.1.toInt ∧ r.1.toInt ≤ x2.toInt ∧ (I 8).toInt = 2 ∧ (I 10).toInt ≤ 7))) := by
    unfold fX12_number_J50
    refine wq_b (tt_wrong N I L M 2 (by decide) k) (fun r4 h4 => ?_)
    obtain ⟨h4, g4⟩ := h4
    have e : r4.2.2 = M := h4.1
    rw [e]
    refine tt_num55 hN I r4.1 r4.2.1 M x1 x2 (fun v => v = I 11 ∧ x1.toInt ≤ v.toInt ∧ v.toInt ≤ x2.toInt ∧ (I 8).toInt = 2 ∧ (I 10).toInt ≤ 7) ⟨rfl, h4.2.1, h4.2.2.1, h4.2.2.2⟩ (Or.inl g4)
  refine wq_b (tt_good N I L M) (fun r5 h5 => ?_)
  refine wq_eq (fun hc => ?_) (fun hc => ?_)
  · exact wq_s ⟨NP.rf k, Or.inl (by show (I 4).toInt ≠ 0; omega)⟩
  · refine wq_eq (fun h8 => ?_) (fun h8 => ?_)
    · refine wq_lt (fun h10 => h50) (fun h10 => ?_)
      refine wq_lt (fun h11 => h50) (fun h11 => ?_)
      refine wq_le (fun h12 => ?_) (fun h12 => h50)
      exact tt_num55 hN I I L M x1 x2 (fun v => v = I 11 ∧ x1.toInt ≤ v.toInt ∧ v.toInt ≤ x2.toInt ∧ (I 8).toInt = 2 ∧ (I 10).toInt ≤ 7) (NP.rf k) (Or.inr ⟨rfl, by omega, by omega, by omega, by omega⟩)
    · refine wq_b (tt_wrong N I L M 1 (by decide) k) (fun r6 h6 => ?_)
      obtain ⟨h6, g6⟩ := h6
      have e : r6.2.2 = M := h6.1
      rw [e]
      exact tt_num55 hN I r6.1 r6.2.1 M x1 x2 (fun v => v = I 11 ∧ x1.toInt ≤ v.toInt ∧ v.toInt ≤ x2.toInt ∧ (I 8).toInt = 2 ∧ (I 10).toInt ≤ 7) ⟨rfl, h6.2.1, h6.2.2.1, h6.2.2.2⟩ (Or.inl g6)
theorem tt_fX12_number {N : Nat} (hN : 3000000000 ≤ N) (I0 : Nat → Int32) (L0 : Int64) (M0 : Nat → Nat → Int32) (x1 : Int32) (x2 : Int32) (k_I0 : KX12 I0 M0) : wq (fX12_number N I0 L0 M0 x1 x2) (fun r => KX12 r.2.1 r.2.2.2 ∧ True) := wq_w (tt_number hN I0 L0 M0 x1 x2 k_I0) (fun r h => by have e : r.2.2.2 = M0 := h.1.1; rw [e]; exact ⟨h.1.2.2.1, trivial⟩)
/-- a line is read: a fault stays, the place does not go back -/
def RP (I : Nat → Int32) (r : (Nat → Int32) × Int64 × (Nat → Nat → Int32)) : Prop := KX12 r.1 r.2.2 ∧ ((I 4).toInt = 0 ∨ (r.1 4).toInt ≠ 0) ∧ (I 7).toInt ≤ (r.1 7).toInt
theorem RP.of {I : Nat → Int32} {M : Nat → Nat → Int32} {r : (Nat → Int32) × Int64 × (Nat → Nat → Int32)} (h : NP I M r) : RP I r := ⟨by rw [h.1]; exact h.2.2.1, h.2.2.2.1, h.2.2.2.2⟩
theorem RP.tr {I : Nat → Int32} {M : Nat → Nat → Int32} {r q : (Nat → Int32) × Int64 × (Nat → Nat → Int32)} (h : NP I M r) (g : RP r.1 q) : RP I q := ⟨g.1, by have a := h.2.2.2.1; have b := g.2.1; omega, by have a := h.2.2.2.2; have b := g.2.2; omega⟩
theorem RP.go {I J : Nat → Int32} {q : (Nat → Int32) × Int64 × (Nat → Nat → Int32)} (a : (I 4).toInt = 0 ∨ (J 4).toInt ≠ 0) (b : (I 7).toInt ≤ (J 7).toInt) (g : RP J q) : RP I q := ⟨g.1, by have c := g.2.1; omega, by have c := g.2.2; omega⟩
theorem tt_named {N : Nat} (hN : 3000000000 ≤ N) (I : Nat → Int32) (L : Int64) (M : Nat → Nat → Int32) (x1 x2 x3 : Int32) (k : KX12 I M) : wq (fX12_named N I L M x1 x2 x3) (fun r => NP I M r.2 ∧ ((r.2.1 4).toInt ≠ 0 ∨ (x2.toInt ≤ r.1.toInt ∧ r.1.toInt ≤ x3.toInt))) := by
  unfold fX12_named
  have hb : ∀ z : Int32, wq ((fX12_need N I L M z).bind fun r4 => (fX12_number N r4.1 r4.2.1 r4.2.2 x2 x3).bind fun r5 => some (r5.1, r5.2.1, r5.2.2.1, r5.2.2.2)) (fun r => NP I M r.2 ∧ ((r.2.1 4).toInt ≠ 0 ∨ (x2.toInt ≤ r.1.toInt ∧ r.1.toInt ≤ x3.toInt))) := by
    intro z
    refine wq_b (tt_need hN I L M z k) (fun r4 h4 => ?_)
    obtain ⟨h4, -⟩ := h4
    have e : r4.2.2 = M := h4.1
    rw [e]
    refine wq_b (tt_number hN r4.1 r4.2.1 M x2 x3 h4.2.2.1) (fun r5 h5 => ?_)
    obtain ⟨h5, g5⟩ := h5
    refine wq_s ⟨NP.tr h4 h5, ?_⟩
    rcases g5 with q | q
    · exact Or.inl q
    · exact Or.inr ⟨q.2.1, q.2.2.1⟩
  refine wq_b (tt_fX12_knownWord hN I L M k) (fun r1 h1 => ?_)
  exact wq_i (fun _ => hb 1) (fun _ => hb 0)
theorem tt_fX12_named {N : Nat} (hN : 3000000000 ≤ N) (I0 : Nat → Int32) (L0 : Int64) (M0 : Nat → Nat → Int32) (x1 : Int32) (x2 : Int32) (x3 : Int32) (k_I0 : KX12 I0 M0) : wq (fX12_named N I0 L0 M0 x1 x2 x3) (fun r => KX12 r.2.1 r.2.2.2 ∧ True) := wq_w (tt_named hN I0 L0 M0 x1 x2 x3 k_I0) (fun r h => by have e : r.2.2.2 = M0 := h.1.1; rw [e]; exact ⟨h.1.2.2.1, trivial⟩)
set_option maxHeartbeats 4000000 in
theorem tt_fX12_begins {N : Nat} (hN : 3000000000 ≤ N) (I0 : Nat → Int32) (L0 : Int64) (M0 : Nat → Nat → Int32) (x1 : Int32) (k_I0 : KX12 I0 M0) : wq (fX12_begins N I0 L0 M0 x1) (fun r => (0 ≤ r.1.toInt ∧ r.1.toInt ≤ 1) ∧ KX12 r.2.1 r.2.2.2 ∧ True) := by
  unfold fX12_begins
  have b_25225 := i32b x1
  have l_0 := il_0
  refine wq_lt (fun hc_25226 => ?_) (fun hc_25227 => ?_)
  · unfold fX12_begins_J17
    unfold fX12_begins_J18
    refine wq_eq (fun hc_25228 => ?_) (fun hc_25229 => ?_)
    · have t_25230 := KX12.i12 k_I0
      refine wq_eq (fun hc_25231 => ?_) (fun hc_25232 => ?_)
      · unfold fX12_begins_J36
        unfold fX12_begins_J37
        have l_1 := il_1
        refine wq_b (tt_fX12_right hN I0 L0 M0 (0 : Int32) (1 : Int32) ⟨by omega, by omega⟩ k_I0) (fun r1_q25233 h_r1_q25233 => ?_)
        obtain ⟨h_r1_q25233_0, h_r1_q25233_1, h_r1_q25233_2, h_r1_q25233_3, -⟩ := h_r1_q25233
        have t_25234 := KX12.i1 h_r1_q25233_3
        have t_25235 := KX12.i1 k_I0
        refine wq_eq (fun hc_25236 => ?_) (fun hc_25237 => ?_)
        · exact wq_s ⟨(show 0 ≤ (0 : Int32).toInt ∧ (0 : Int32).toInt ≤ 1 from ⟨by omega, by omega⟩), h_r1_q25233_3, trivial⟩
        · refine wq_v (fun I0_2_q25238 h_I0_2_q25238 => ?_)
          have k_I0_2_q25238 : KX12 I0_2_q25238 r1_q25233.2.2.2 := by rw [h_I0_2_q25238]; exact KX12.si3 h_r1_q25233_3 ⟨by omega, by omega⟩
          refine wq_v (fun I0_3_q25239 h_I0_3_q25239 => ?_)
          have k_I0_3_q25239 : KX12 I0_3_q25239 r1_q25233.2.2.2 := by rw [h_I0_3_q25239]; exact KX12.si5 k_I0_2_q25238
          refine wq_v (fun I0_4_q25240 h_I0_4_q25240 => ?_)
          have k_I0_4_q25240 : KX12 I0_4_q25240 r1_q25233.2.2.2 := by rw [h_I0_4_q25240]; exact KX12.si4 k_I0_3_q25239
          refine wq_v (fun I0_5_q25241 h_I0_5_q25241 => ?_)
          have k_I0_5_q25241 : KX12 I0_5_q25241 r1_q25233.2.2.2 := by rw [h_I0_5_q25241]; exact KX12.si6 k_I0_4_q25240 ⟨by omega, by omega⟩
          refine wq_v (fun I0_6_q25242 h_I0_6_q25242 => ?_)
          have k_I0_6_q25242 : KX12 I0_6_q25242 r1_q25233.2.2.2 := by rw [h_I0_6_q25242]; exact KX12.si7 k_I0_5_q25241 ⟨by omega, by omega⟩
          refine wq_b (tt_fX12_steps hN I0_6_q25242 r1_q25233.2.2.1 r1_q25233.2.2.2 k_I0_6_q25242) (fun r7_q25243 h_r7_q25243 => ?_)
          obtain ⟨h_r7_q25243_0, -⟩ := h_r7_q25243
          exact wq_s ⟨(show 0 ≤ (1 : Int32).toInt ∧ (1 : Int32).toInt ≤ 1 from ⟨by omega, by omega⟩), h_r7_q25243_0, trivial⟩
      · unfold fX12_begins_J37
        have l_2 := il_2
        refine wq_b (tt_fX12_right hN I0 L0 M0 (0 : Int32) (2 : Int32) ⟨by omega, by omega⟩ k_I0) (fun r1_q25244 h_r1_q25244 => ?_)
        obtain ⟨h_r1_q25244_0, h_r1_q25244_1, h_r1_q25244_2, h_r1_q25244_3, -⟩ := h_r1_q25244
        have t_25245 := KX12.i1 h_r1_q25244_3
        have t_25246 := KX12.i1 k_I0
        refine wq_eq (fun hc_25247 => ?_) (fun hc_25248 => ?_)
        · exact wq_s ⟨(show 0 ≤ (0 : Int32).toInt ∧ (0 : Int32).toInt ≤ 1 from ⟨by omega, by omega⟩), h_r1_q25244_3, trivial⟩
        · refine wq_v (fun I0_2_q25249 h_I0_2_q25249 => ?_)
          have k_I0_2_q25249 : KX12 I0_2_q25249 r1_q25244.2.2.2 := by rw [h_I0_2_q25249]; exact KX12.si3 h_r1_q25244_3 ⟨by omega, by omega⟩
          refine wq_v (fun I0_3_q25250 h_I0_3_q25250 => ?_)
          have k_I0_3_q25250 : KX12 I0_3_q25250 r1_q25244.2.2.2 := by rw [h_I0_3_q25250]; exact KX12.si5 k_I0_2_q25249
          refine wq_v (fun I0_4_q25251 h_I0_4_q25251 => ?_)
          have k_I0_4_q25251 : KX12 I0_4_q25251 r1_q25244.2.2.2 := by rw [h_I0_4_q25251]; exact KX12.si4 k_I0_3_q25250
          refine wq_v (fun I0_5_q25252 h_I0_5_q25252 => ?_)
          have k_I0_5_q25252 : KX12 I0_5_q25252 r1_q25244.2.2.2 := by rw [h_I0_5_q25252]; exact KX12.si6 k_I0_4_q25251 ⟨by omega, by omega⟩
          refine wq_v (fun I0_6_q25253 h_I0_6_q25253 => ?_)
          have k_I0_6_q25253 : KX12 I0_6_q25253 r1_q25244.2.2.2 := by rw [h_I0_6_q25253]; exact KX12.si7 k_I0_5_q25252 ⟨by omega, by omega⟩
          refine wq_b (tt_fX12_steps hN I0_6_q25253 r1_q25244.2.2.1 r1_q25244.2.2.2 k_I0_6_q25253) (fun r7_q25254 h_r7_q25254 => ?_)
          obtain ⟨h_r7_q25254_0, -⟩ := h_r7_q25254
          have l_1 := il_1
          exact wq_s ⟨(show 0 ≤ (1 : Int32).toInt ∧ (1 : Int32).toInt ≤ 1 from ⟨by omega, by omega⟩), h_r7_q25254_0, trivial⟩
    · unfold fX12_begins_J36
      unfold fX12_begins_J37
      have l_1 := il_1
      refine wq_b (tt_fX12_right hN I0 L0 M0 (0 : Int32) (1 : Int32) ⟨by omega, by omega⟩ k_I0) (fun r1_q25255 h_r1_q25255 => ?_)
      obtain ⟨h_r1_q25255_0, h_r1_q25255_1, h_r1_q25255_2, h_r1_q25255_3, -⟩ := h_r1_q25255
      have t_25256 := KX12.i1 h_r1_q25255_3
      have t_25257 := KX12.i1 k_I0
      refine wq_eq (fun hc_25258 => ?_) (fun hc_25259 => ?_)
      · exact wq_s ⟨(show 0 ≤ (0 : Int32).toInt ∧ (0 : Int32).toInt ≤ 1 from ⟨by omega, by omega⟩), h_r1_q25255_3, trivial⟩
      · refine wq_v (fun I0_2_q25260 h_I0_2_q25260 => ?_)
        have k_I0_2_q25260 : KX12 I0_2_q25260 r1_q25255.2.2.2 := by rw [h_I0_2_q25260]; exact KX12.si3 h_r1_q25255_3 ⟨by omega, by omega⟩
        refine wq_v (fun I0_3_q25261 h_I0_3_q25261 => ?_)
        have k_I0_3_q25261 : KX12 I0_3_q25261 r1_q25255.2.2.2 := by rw [h_I0_3_q25261]; exact KX12.si5 k_I0_2_q25260
        refine wq_v (fun I0_4_q25262 h_I0_4_q25262 => ?_)
        have k_I0_4_q25262 : KX12 I0_4_q25262 r1_q25255.2.2.2 := by rw [h_I0_4_q25262]; exact KX12.si4 k_I0_3_q25261
        refine wq_v (fun I0_5_q25263 h_I0_5_q25263 => ?_)
        have k_I0_5_q25263 : KX12 I0_5_q25263 r1_q25255.2.2.2 := by rw [h_I0_5_q25263]; exact KX12.si6 k_I0_4_q25262 ⟨by omega, by omega⟩
        refine wq_v (fun I0_6_q25264 h_I0_6_q25264 => ?_)
        have k_I0_6_q25264 : KX12 I0_6_q25264 r1_q25255.2.2.2 := by rw [h_I0_6_q25264]; exact KX12.si7 k_I0_5_q25263 ⟨by omega, by omega⟩
        refine wq_b (tt_fX12_steps hN I0_6_q25264 r1_q25255.2.2.1 r1_q25255.2.2.2 k_I0_6_q25264) (fun r7_q25265 h_r7_q25265 => ?_)
        obtain ⟨h_r7_q25265_0, -⟩ := h_r7_q25265
        exact wq_s ⟨(show 0 ≤ (1 : Int32).toInt ∧ (1 : Int32).toInt ≤ 1 from ⟨by omega, by omega⟩), h_r7_q25265_0, trivial⟩
  · have t_25266 := KX12.i3 k_I0
    refine wq_lt (fun hc_25267 => ?_) (fun hc_25268 => ?_)
    · unfold fX12_begins_J17
      unfold fX12_begins_J18
      refine wq_eq (fun hc_25269 => ?_) (fun hc_25270 => ?_)
      · have t_25271 := KX12.i12 k_I0
        refine wq_eq (fun hc_25272 => ?_) (fun hc_25273 => ?_)
        · unfold fX12_begins_J36
          unfold fX12_begins_J37
          have l_1 := il_1
          refine wq_b (tt_fX12_right hN I0 L0 M0 (0 : Int32) (1 : Int32) ⟨by omega, by omega⟩ k_I0) (fun r1_q25274 h_r1_q25274 => ?_)
          obtain ⟨h_r1_q25274_0, h_r1_q25274_1, h_r1_q25274_2, h_r1_q25274_3, -⟩ := h_r1_q25274
          have t_25275 := KX12.i1 h_r1_q25274_3
          have t_25276 := KX12.i1 k_I0
          refine wq_eq (fun hc_25277 => ?_) (fun hc_25278 => ?_)
          · exact wq_s ⟨(show 0 ≤ (0 : Int32).toInt ∧ (0 : Int32).toInt ≤ 1 from ⟨by omega, by omega⟩), h_r1_q25274_3, trivial⟩
          · refine wq_v (fun I0_2_q25279 h_I0_2_q25279 => ?_)
            have k_I0_2_q25279 : KX12 I0_2_q25279 r1_q25274.2.2.2 := by rw [h_I0_2_q25279]; exact KX12.si3 h_r1_q25274_3 ⟨by omega, by omega⟩
            refine wq_v (fun I0_3_q25280 h_I0_3_q25280 => ?_)
            have k_I0_3_q25280 : KX12 I0_3_q25280 r1_q25274.2.2.2 := by rw [h_I0_3_q25280]; exact KX12.si5 k_I0_2_q25279
            refine wq_v (fun I0_4_q25281 h_I0_4_q25281 => ?_)
            have k_I0_4_q25281 : KX12 I0_4_q25281 r1_q25274.2.2.2 := by rw [h_I0_4_q25281]; exact KX12.si4 k_I0_3_q25280
            refine wq_v (fun I0_5_q25282 h_I0_5_q25282 => ?_)
            have k_I0_5_q25282 : KX12 I0_5_q25282 r1_q25274.2.2.2 := by rw [h_I0_5_q25282]; exact KX12.si6 k_I0_4_q25281 ⟨by omega, by omega⟩
            refine wq_v (fun I0_6_q25283 h_I0_6_q25283 => ?_)
            have k_I0_6_q25283 : KX12 I0_6_q25283 r1_q25274.2.2.2 := by rw [h_I0_6_q25283]; exact KX12.si7 k_I0_5_q25282 ⟨by omega, by omega⟩
            refine wq_b (tt_fX12_steps hN I0_6_q25283 r1_q25274.2.2.1 r1_q25274.2.2.2 k_I0_6_q25283) (fun r7_q25284 h_r7_q25284 => ?_)
            obtain ⟨h_r7_q25284_0, -⟩ := h_r7_q25284
            exact wq_s ⟨(show 0 ≤ (1 : Int32).toInt ∧ (1 : Int32).toInt ≤ 1 from ⟨by omega, by omega⟩), h_r7_q25284_0, trivial⟩
        · unfold fX12_begins_J37
          have l_2 := il_2
          refine wq_b (tt_fX12_right hN I0 L0 M0 (0 : Int32) (2 : Int32) ⟨by omega, by omega⟩ k_I0) (fun r1_q25285 h_r1_q25285 => ?_)
          obtain ⟨h_r1_q25285_0, h_r1_q25285_1, h_r1_q25285_2, h_r1_q25285_3, -⟩ := h_r1_q25285
          have t_25286 := KX12.i1 h_r1_q25285_3
          have t_25287 := KX12.i1 k_I0
          refine wq_eq (fun hc_25288 => ?_) (fun hc_25289 => ?_)
          · exact wq_s ⟨(show 0 ≤ (0 : Int32).toInt ∧ (0 : Int32).toInt ≤ 1 from ⟨by omega, by omega⟩), h_r1_q25285_3, trivial⟩
          · refine wq_v (fun I0_2_q25290 h_I0_2_q25290 => ?_)
            have k_I0_2_q25290 : KX12 I0_2_q25290 r1_q25285.2.2.2 := by rw [h_I0_2_q25290]; exact KX12.si3 h_r1_q25285_3 ⟨by omega, by omega⟩
            refine wq_v (fun I0_3_q25291 h_I0_3_q25291 => ?_)
            have k_I0_3_q25291 : KX12 I0_3_q25291 r1_q25285.2.2.2 := by rw [h_I0_3_q25291]; exact KX12.si5 k_I0_2_q25290
            refine wq_v (fun I0_4_q25292 h_I0_4_q25292 => ?_)
            have k_I0_4_q25292 : KX12 I0_4_q25292 r1_q25285.2.2.2 := by rw [h_I0_4_q25292]; exact KX12.si4 k_I0_3_q25291
            refine wq_v (fun I0_5_q25293 h_I0_5_q25293 => ?_)
            have k_I0_5_q25293 : KX12 I0_5_q25293 r1_q25285.2.2.2 := by rw [h_I0_5_q25293]; exact KX12.si6 k_I0_4_q25292 ⟨by omega, by omega⟩
            refine wq_v (fun I0_6_q25294 h_I0_6_q25294 => ?_)
            have k_I0_6_q25294 : KX12 I0_6_q25294 r1_q25285.2.2.2 := by rw [h_I0_6_q25294]; exact KX12.si7 k_I0_5_q25293 ⟨by omega, by omega⟩
            refine wq_b (tt_fX12_steps hN I0_6_q25294 r1_q25285.2.2.1 r1_q25285.2.2.2 k_I0_6_q25294) (fun r7_q25295 h_r7_q25295 => ?_)
            obtain ⟨h_r7_q25295_0, -⟩ := h_r7_q25295
            have l_1 := il_1
            exact wq_s ⟨(show 0 ≤ (1 : Int32).toInt ∧ (1 : Int32).toInt ≤ 1 from ⟨by omega, by omega⟩), h_r7_q25295_0, trivial⟩
      · unfold fX12_begins_J36
        unfold fX12_begins_J37
        have l_1 := il_1
        refine wq_b (tt_fX12_right hN I0 L0 M0 (0 : Int32) (1 : Int32) ⟨by omega, by omega⟩ k_I0) (fun r1_q25296 h_r1_q25296 => ?_)
        obtain ⟨h_r1_q25296_0, h_r1_q25296_1, h_r1_q25296_2, h_r1_q25296_3, -⟩ := h_r1_q25296
        have t_25297 := KX12.i1 h_r1_q25296_3
        have t_25298 := KX12.i1 k_I0
        refine wq_eq (fun hc_25299 => ?_) (fun hc_25300 => ?_)
        · exact wq_s ⟨(show 0 ≤ (0 : Int32).toInt ∧ (0 : Int32).toInt ≤ 1 from ⟨by omega, by omega⟩), h_r1_q25296_3, trivial⟩
        · refine wq_v (fun I0_2_q25301 h_I0_2_q25301 => ?_)
          have k_I0_2_q25301 : KX12 I0_2_q25301 r1_q25296.2.2.2 := by rw [h_I0_2_q25301]; exact KX12.si3 h_r1_q25296_3 ⟨by omega, by omega⟩
          refine wq_v (fun I0_3_q25302 h_I0_3_q25302 => ?_)
          have k_I0_3_q25302 : KX12 I0_3_q25302 r1_q25296.2.2.2 := by rw [h_I0_3_q25302]; exact KX12.si5 k_I0_2_q25301
          refine wq_v (fun I0_4_q25303 h_I0_4_q25303 => ?_)
          have k_I0_4_q25303 : KX12 I0_4_q25303 r1_q25296.2.2.2 := by rw [h_I0_4_q25303]; exact KX12.si4 k_I0_3_q25302
          refine wq_v (fun I0_5_q25304 h_I0_5_q25304 => ?_)
          have k_I0_5_q25304 : KX12 I0_5_q25304 r1_q25296.2.2.2 := by rw [h_I0_5_q25304]; exact KX12.si6 k_I0_4_q25303 ⟨by omega, by omega⟩
          refine wq_v (fun I0_6_q25305 h_I0_6_q25305 => ?_)
          have k_I0_6_q25305 : KX12 I0_6_q25305 r1_q25296.2.2.2 := by rw [h_I0_6_q25305]; exact KX12.si7 k_I0_5_q25304 ⟨by omega, by omega⟩
          refine wq_b (tt_fX12_steps hN I0_6_q25305 r1_q25296.2.2.1 r1_q25296.2.2.2 k_I0_6_q25305) (fun r7_q25306 h_r7_q25306 => ?_)
          obtain ⟨h_r7_q25306_0, -⟩ := h_r7_q25306
          exact wq_s ⟨(show 0 ≤ (1 : Int32).toInt ∧ (1 : Int32).toInt ≤ 1 from ⟨by omega, by omega⟩), h_r7_q25306_0, trivial⟩
    · unfold fX12_begins_J18
      refine wq_eq (fun hc_25307 => ?_) (fun hc_25308 => ?_)
      · have t_25309 := KX12.i12 k_I0
        refine wq_eq (fun hc_25310 => ?_) (fun hc_25311 => ?_)
        · unfold fX12_begins_J36
          unfold fX12_begins_J37
          have l_1 := il_1
          refine wq_b (tt_fX12_right hN I0 L0 M0 (1 : Int32) (1 : Int32) ⟨by omega, by omega⟩ k_I0) (fun r1_q25312 h_r1_q25312 => ?_)
          obtain ⟨h_r1_q25312_0, h_r1_q25312_1, h_r1_q25312_2, h_r1_q25312_3, -⟩ := h_r1_q25312
          have t_25313 := KX12.i1 h_r1_q25312_3
          have t_25314 := KX12.i1 k_I0
          refine wq_eq (fun hc_25315 => ?_) (fun hc_25316 => ?_)
          · exact wq_s ⟨(show 0 ≤ (0 : Int32).toInt ∧ (0 : Int32).toInt ≤ 1 from ⟨by omega, by omega⟩), h_r1_q25312_3, trivial⟩
          · refine wq_v (fun I0_2_q25317 h_I0_2_q25317 => ?_)
            have k_I0_2_q25317 : KX12 I0_2_q25317 r1_q25312.2.2.2 := by rw [h_I0_2_q25317]; exact KX12.si3 h_r1_q25312_3 ⟨by omega, by omega⟩
            refine wq_v (fun I0_3_q25318 h_I0_3_q25318 => ?_)
            have k_I0_3_q25318 : KX12 I0_3_q25318 r1_q25312.2.2.2 := by rw [h_I0_3_q25318]; exact KX12.si5 k_I0_2_q25317
            refine wq_v (fun I0_4_q25319 h_I0_4_q25319 => ?_)
            have k_I0_4_q25319 : KX12 I0_4_q25319 r1_q25312.2.2.2 := by rw [h_I0_4_q25319]; exact KX12.si4 k_I0_3_q25318
            refine wq_v (fun I0_5_q25320 h_I0_5_q25320 => ?_)
            have k_I0_5_q25320 : KX12 I0_5_q25320 r1_q25312.2.2.2 := by rw [h_I0_5_q25320]; exact KX12.si6 k_I0_4_q25319 ⟨by omega, by omega⟩
            refine wq_v (fun I0_6_q25321 h_I0_6_q25321 => ?_)
            have k_I0_6_q25321 : KX12 I0_6_q25321 r1_q25312.2.2.2 := by rw [h_I0_6_q25321]; exact KX12.si7 k_I0_5_q25320 ⟨by omega, by omega⟩
            refine wq_b (tt_fX12_steps hN I0_6_q25321 r1_q25312.2.2.1 r1_q25312.2.2.2 k_I0_6_q25321) (fun r7_q25322 h_r7_q25322 => ?_)
            obtain ⟨h_r7_q25322_0, -⟩ := h_r7_q25322
            exact wq_s ⟨(show 0 ≤ (1 : Int32).toInt ∧ (1 : Int32).toInt ≤ 1 from ⟨by omega, by omega⟩), h_r7_q25322_0, trivial⟩
        · unfold fX12_begins_J37
          have l_1 := il_1
          have l_2 := il_2
          refine wq_b (tt_fX12_right hN I0 L0 M0 (1 : Int32) (2 : Int32) ⟨by omega, by omega⟩ k_I0) (fun r1_q25323 h_r1_q25323 => ?_)
          obtain ⟨h_r1_q25323_0, h_r1_q25323_1, h_r1_q25323_2, h_r1_q25323_3, -⟩ := h_r1_q25323
          have t_25324 := KX12.i1 h_r1_q25323_3
          have t_25325 := KX12.i1 k_I0
          refine wq_eq (fun hc_25326 => ?_) (fun hc_25327 => ?_)
          · exact wq_s ⟨(show 0 ≤ (0 : Int32).toInt ∧ (0 : Int32).toInt ≤ 1 from ⟨by omega, by omega⟩), h_r1_q25323_3, trivial⟩
          · refine wq_v (fun I0_2_q25328 h_I0_2_q25328 => ?_)
            have k_I0_2_q25328 : KX12 I0_2_q25328 r1_q25323.2.2.2 := by rw [h_I0_2_q25328]; exact KX12.si3 h_r1_q25323_3 ⟨by omega, by omega⟩
            refine wq_v (fun I0_3_q25329 h_I0_3_q25329 => ?_)
            have k_I0_3_q25329 : KX12 I0_3_q25329 r1_q25323.2.2.2 := by rw [h_I0_3_q25329]; exact KX12.si5 k_I0_2_q25328
            refine wq_v (fun I0_4_q25330 h_I0_4_q25330 => ?_)
            have k_I0_4_q25330 : KX12 I0_4_q25330 r1_q25323.2.2.2 := by rw [h_I0_4_q25330]; exact KX12.si4 k_I0_3_q25329
            refine wq_v (fun I0_5_q25331 h_I0_5_q25331 => ?_)
            have k_I0_5_q25331 : KX12 I0_5_q25331 r1_q25323.2.2.2 := by rw [h_I0_5_q25331]; exact KX12.si6 k_I0_4_q25330 ⟨by omega, by omega⟩
            refine wq_v (fun I0_6_q25332 h_I0_6_q25332 => ?_)
            have k_I0_6_q25332 : KX12 I0_6_q25332 r1_q25323.2.2.2 := by rw [h_I0_6_q25332]; exact KX12.si7 k_I0_5_q25331 ⟨by omega, by omega⟩
            refine wq_b (tt_fX12_steps hN I0_6_q25332 r1_q25323.2.2.1 r1_q25323.2.2.2 k_I0_6_q25332) (fun r7_q25333 h_r7_q25333 => ?_)
            obtain ⟨h_r7_q25333_0, -⟩ := h_r7_q25333
            exact wq_s ⟨(show 0 ≤ (1 : Int32).toInt ∧ (1 : Int32).toInt ≤ 1 from ⟨by omega, by omega⟩), h_r7_q25333_0, trivial⟩
      · unfold fX12_begins_J36
        unfold fX12_begins_J37
        have l_1 := il_1
        refine wq_b (tt_fX12_right hN I0 L0 M0 (1 : Int32) (1 : Int32) ⟨by omega, by omega⟩ k_I0) (fun r1_q25334 h_r1_q25334 => ?_)
        obtain ⟨h_r1_q25334_0, h_r1_q25334_1, h_r1_q25334_2, h_r1_q25334_3, -⟩ := h_r1_q25334
        have t_25335 := KX12.i1 h_r1_q25334_3
        have t_25336 := KX12.i1 k_I0
        refine wq_eq (fun hc_25337 => ?_) (fun hc_25338 => ?_)
        · exact wq_s ⟨(show 0 ≤ (0 : Int32).toInt ∧ (0 : Int32).toInt ≤ 1 from ⟨by omega, by omega⟩), h_r1_q25334_3, trivial⟩
        · refine wq_v (fun I0_2_q25339 h_I0_2_q25339 => ?_)
          have k_I0_2_q25339 : KX12 I0_2_q25339 r1_q25334.2.2.2 := by rw [h_I0_2_q25339]; exact KX12.si3 h_r1_q25334_3 ⟨by omega, by omega⟩
          refine wq_v (fun I0_3_q25340 h_I0_3_q25340 => ?_)
          have k_I0_3_q25340 : KX12 I0_3_q25340 r1_q25334.2.2.2 := by rw [h_I0_3_q25340]; exact KX12.si5 k_I0_2_q25339
          refine wq_v (fun I0_4_q25341 h_I0_4_q25341 => ?_)
          have k_I0_4_q25341 : KX12 I0_4_q25341 r1_q25334.2.2.2 := by rw [h_I0_4_q25341]; exact KX12.si4 k_I0_3_q25340
          refine wq_v (fun I0_5_q25342 h_I0_5_q25342 => ?_)
          have k_I0_5_q25342 : KX12 I0_5_q25342 r1_q25334.2.2.2 := by rw [h_I0_5_q25342]; exact KX12.si6 k_I0_4_q25341 ⟨by omega, by omega⟩
          refine wq_v (fun I0_6_q25343 h_I0_6_q25343 => ?_)
          have k_I0_6_q25343 : KX12 I0_6_q25343 r1_q25334.2.2.2 := by rw [h_I0_6_q25343]; exact KX12.si7 k_I0_5_q25342 ⟨by omega, by omega⟩
          refine wq_b (tt_fX12_steps hN I0_6_q25343 r1_q25334.2.2.1 r1_q25334.2.2.2 k_I0_6_q25343) (fun r7_q25344 h_r7_q25344 => ?_)
          obtain ⟨h_r7_q25344_0, -⟩ := h_r7_q25344
          exact wq_s ⟨(show 0 ≤ (1 : Int32).toInt ∧ (1 : Int32).toInt ≤ 1 from ⟨by omega, by omega⟩), h_r7_q25344_0, trivial⟩
theorem tt_rs102 (N : Nat) (I : Nat → Int32) (L : Int64) (M : Nat → Nat → Int32) (y1 y2 y3 y4 y5 y6 : Int32) (k : KX12 I M) (h : (I 4).toInt ≠ 0 ∨ ((0 ≤ y1.toInt ∧ y1.toInt ≤ 3) ∧ (0 ≤ y2.toInt ∧ y2.toInt ≤ 6) ∧ (1 ≤ y6.toInt ∧ y6.toInt ≤ 1000000))) : wq (fX12_readsSet_J102 N I L M y1 y2 y3 y4 y5 y6) (RP I) := by
  unfold fX12_readsSet_J102
  have l_0 := il_0
  have l_7 := il_7
  refine wq_b (tt_good N I L M) (fun r1 h1 => ?_)
  refine wq_eq (fun hc => ?_) (fun hc => ?_)
  · exact wq_s (RP.of (M := M) (NP.rf k))
  · have hh : (0 ≤ y1.toInt ∧ y1.toInt ≤ 3) ∧ (0 ≤ y2.toInt ∧ y2.toInt ≤ 6) ∧ (1 ≤ y6.toInt ∧ y6.toInt ≤ 1000000) := by
      rcases h with q | q
      · exact absurd q (by omega)
      · exact q
    have ta := ia_mul (7 : Int32) 7 il_7 y1 (by omega) (by omega)
    have tb := ia_add ((7 : Int32) * y1) y2 (by omega) (by omega)
    refine wq_in (n := 28) ⟨by omega, by omega⟩ (wq_v (fun M2 e2 => ?_))
    refine wq_in (n := 28) ⟨by omega, by omega⟩ (wq_v (fun M3 e3 => ?_))
    refine wq_in (n := 28) ⟨by omega, by omega⟩ (wq_v (fun M4 e4 => ?_))
    refine wq_in (n := 28) ⟨by omega, by omega⟩ (wq_v (fun M5 e5 => ?_))
    subst e2
    subst e3
    subst e4
    subst e5
    exact wq_s ⟨KX12.sm12 (KX12.sm11 (KX12.sm10 (KX12.sm9 k))) hh.2.2, by show _ ∨ (I 4).toInt ≠ 0; omega, Int.le_refl _⟩

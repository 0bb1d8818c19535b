/-! p1, pure: days -/
theorem wp_span (N : Nat) (q : Nat) (hq : q ≤ 1000000) (x : Int32) : (fX11_isSpan N (nI q) x = some 0 ∧ fX12_isSpan N fm_0 0 fm_M (nI q) x = some (0, fm_2, 0, fm_M)) ∨ ∃ k : Nat, k ≤ 50000 ∧ q + k ≤ 1000000 ∧ x = nI k ∧ fX11_isSpan N (nI q) x = some 1 ∧ fX12_isSpan N fm_0 0 fm_M (nI q) x = some (1, fm_0, 0, fm_M) := by
  have hd : fX12_within N (nI q) 0 1000000 = some 1 := by
    unfold fX12_within
    rw [if_neg (nI_pos (by omega)), if_neg (show ¬ (1000000 : Int32) < nI q from nI_nlt (b := q) (a := 1000000) hq (by decide))]
  unfold fX11_isSpan fX12_isSpan
  rw [hd]
  simp only [Option.bind_some, wp_r1, wp_10, if_false]
  rcases wp_wi N x 50000 (by decide) with ⟨k1, k2⟩ | ⟨k, hk, rfl, k1, k2⟩
  · left
    have k1 : fX11_within N x 0 50000 = some 0 := k1
    have k2 : fX12_within N x 0 50000 = some 0 := k2
    rw [k1, k2]; exact ⟨rfl, rfl⟩
  · have k1 : fX11_within N (nI k) 0 50000 = some 1 := k1
    have k2 : fX12_within N (nI k) 0 50000 = some 1 := k2
    have es : (1000000 : Int32) - nI q = nI (1000000 - q) := by
      have : nI (1000000 - q) + nI q = 1000000 := by rw [nI_add, show 1000000 - q + q = 1000000 by omega]; rfl
      rw [← this, Int32.add_sub_cancel]
    rw [k1, k2, es, nI_add]
    simp only [Option.bind_some, wp_10, if_false]
    rcases Nat.lt_or_ge 1000000 (q + k) with h | h
    · left
      have e1 : nI (1000000 - q) < nI k := nI_lt (by omega) (by omega)
      have e2 : (1000000 : Int32) < nI (q + k) := nI_lt (a := 1000000) (by omega) (by omega)
      rw [if_pos e1, if_pos e2]; exact ⟨rfl, rfl⟩
    · right
      have e1 : ¬ nI (1000000 - q) < nI k := nI_nlt (by omega) (by omega)
      have e2 : ¬ (1000000 : Int32) < nI (q + k) := nI_nlt (a := 1000000) (by omega) (by omega)
      refine ⟨k, hk, h, rfl, ?_, ?_⟩
      · rw [if_neg e1]
      · rw [if_neg e2]
/-- the class's search over days on which nothing is told: the least is 0 -/
theorem wp_goOn (N : Nat) (hN : 7 < N) (I1 : Nat → Int32) (M1 : Nat → Nat → Int32) (I2 : Nat → Int32) (M2 : Nat → Nat → Int32) (hM : ∀ j, j < 2640 → M2 0 j = -1) (n : Nat) (hn : n < 120) (x : Int32) : ∀ (fu k m : Nat) (y : Int32) (I : Nat → Int32) (M : Nat → Nat → Int32), x = nI k → y = nI m → True → m ≤ k → k - m < fu → k < 100000 → I 1 = nI n → I 4 = 0 → (∃ c : Nat, c ≤ m ∧ I 5 = nI c) → ∃ v I' M', fX8_goOn_L3 N I1 M1 I2 M2 x fu I M y = some (v, I', M') ∧ I' 4 = 0 := by
  intro fu
  induction fu with
  | zero => intro k m y I M _ _ _ _ h; omega
  | succ fu ih =>
    intro k m y I M hx hy _ hm hf hk h1 h4 h5
    subst hx; subst hy
    obtain ⟨c, hc, h5⟩ := h5
    rw [fX8_goOn_L3.eq_2]
    rcases Nat.lt_or_ge m k with h | h
    · rw [if_neg (nI_ge h (by omega))]
      by_cases hd : (1000000 : Int32) < I 3
      · rw [if_pos hd]; exact ⟨_, _, _, rfl, h4⟩
      · rw [if_neg hd, h1, h4, wp_costX N I1 M1 I2 M2 hM n hn _ _ _ (by decide) hN, Option.bind_some]
        have hl : ∃ M', fX8_lookAt N I M 0 = some (upd (upd I 5 (I 5 + 1)) 6 ((upd I 5 (I 5 + 1)) 3), M') := by
          unfold fX8_lookAt
          rw [h4, if_pos (by decide), if_pos (by decide)]
          unfold fX8_lookAt_J27 fX8_lookAt_J49
          by_cases h20 : (20 : Int32) ≤ I 5
          · rw [if_pos h20]; exact ⟨_, rfl⟩
          · have hc20 : c < 20 := by
              rcases Nat.lt_or_ge c 20 with q | q
              · exact q
              · exfalso; apply h20; rw [h5]; exact nI_le (a := 20) q (by omega)
            rw [if_neg h20, h5, if_neg (wp_in (k := c) (n := 20) hc20 (by decide))]; exact ⟨_, rfl⟩
        obtain ⟨M', hl⟩ := hl
        rw [hl, Option.bind_some, Option.bind_some, Option.bind_some]
        refine ih k (m + 1) _ _ _ rfl (nI_1 m) trivial h (by omega) hk ?_ ?_ ?_
        · show I 1 = nI n; exact h1
        · show I 4 = 0; exact h4
        · refine ⟨c + 1, by omega, ?_⟩
          show I 5 + 1 = nI (c + 1)
          rw [h5, nI_1]
    · rw [if_pos (nI_le h (by omega))]; exact ⟨_, _, _, rfl, h4⟩
/-- begin and go on: the least is 0 after one day -/
theorem wp_goAll (N : Nat) (hN : 60000 ≤ N) (I1 : Nat → Int32) (M1 : Nat → Nat → Int32) (I2 : Nat → Int32) (M2 : Nat → Nat → Int32) (hM : ∀ j, j < 2640 → M2 0 j = -1) (n : Nat) (hn : n < 120) (k q : Nat) (hk : k ≤ 50000) (hq : q ≤ 1000000) (I : Nat → Int32) (M : Nat → Nat → Int32) (h1 : I 1 = nI n) (h3 : I 3 = nI q) (h4 : I 4 = 1000) (h5 : I 5 = 0) : ∃ v I' M', fX8_goOn N I M I1 M1 I2 M2 (nI k + 1) = some (v, I', M') ∧ I' 4 = 0 := by
  obtain ⟨N, rfl⟩ : ∃ n, N = n + 1 := ⟨N - 1, by omega⟩
  unfold fX8_goOn
  rw [nI_1, fX8_goOn_L3.eq_2, if_neg (show ¬ nI (k + 1) ≤ (0 : Int32) from nI_ge (a := 0) (b := k + 1) (by omega) (by omega)), h3, if_neg (show ¬ (1000000 : Int32) < nI q from nI_nlt (b := q) (a := 1000000) hq (by decide)), h1, h4, wp_costX (N + 1) I1 M1 I2 M2 hM n hn _ _ _ (by decide) (by omega), Option.bind_some]
  have hl : ∃ M', fX8_lookAt (N + 1) I M 0 = some (upd (upd (upd (upd I 4 0) 5 0) 5 1) 6 (I 3), M') := by
    unfold fX8_lookAt
    rw [h4, if_pos (by decide), if_neg (by decide)]
    exact ⟨_, rfl⟩
  obtain ⟨M', hl⟩ := hl
  rw [hl, Option.bind_some, Option.bind_some, Option.bind_some]
  refine wp_goOn (N + 1) (by omega) I1 M1 I2 M2 hM n hn _ N (k + 1) 1 _ _ _ rfl rfl trivial (by omega) (by omega) (by omega) ?_ ?_ ?_
  · show I 1 = nI n; exact h1
  · rfl
  · exact ⟨1, by omega, rfl⟩
theorem wp_bestM (N : Nat) (hN : 7 < N) (a b : Nat) (ha : a ≤ 5) (hb : b ≤ 19) (c : Int32) (q k : Nat) (hq : q + k ≤ 1000000) : ∀ (fu m : Nat) (y : Int32) (I : Nat → Int32) (M : Nat → Nat → Int32), y = nI m → q ≤ m → m ≤ q + k + 1 → q + k + 1 - m < fu → (∀ j, j < 2640 → M 7 j = -1) → I 0 = 0 → (∃ c : Nat, c ≤ m ∧ I 15 = nI c) → ∃ I' M', fX12_best_L45 N (nI a) (nI b) c (nI q) (nI k) fu I 0 M 0 y = some (0, I', 0, M') ∧ I' 0 = 0 := by
  intro fu
  induction fu with
  | zero => intro m y I M _ _ _ h; omega
  | succ fu ih =>
    intro m y I M hy hm1 hm2 hf hM h0 h15
    subst hy
    obtain ⟨t, ht, h15⟩ := h15
    rw [fX12_best_L45.eq_2, nI_add]
    rcases Nat.lt_or_ge (q + k) m with h | h
    · rw [if_pos (nI_lt h (by omega))]; exact ⟨_, _, rfl, h0⟩
    · rw [if_neg (nI_nlt h (by omega)), wp_20, wp_costM N I 0 M hM (20 * a + b) (by omega) _ _ _ (by decide) hN, Option.bind_some, if_pos (by decide), if_pos (by decide)]
      have hg : ∀ M' : Nat → Nat → Int32, (∀ j, j < 2640 → M' 7 j = -1) → ∃ I2 M2, fX12_best_J118 N (nI a) (nI b) c (nI q) (nI k) (fun q0 q1 q2 q3 q4 => fX12_best_L45 N (nI a) (nI b) c (nI q) (nI k) fu q0 q1 q2 q3 q4) I 0 M' 0 (nI m) = some (0, I2, 0, M2) ∧ I2 0 = 0 := by
        intro M' hM'
        unfold fX12_best_J118
        rw [Option.bind_some, Option.bind_some]
        refine ih (m + 1) _ _ _ (nI_1 m) (by omega) (by omega) (by omega) hM' ?_ ?_
        · show I 0 = 0; exact h0
        · refine ⟨t + 1, by omega, ?_⟩
          show I 15 + 1 = nI (t + 1)
          rw [h15, nI_1]
      unfold fX12_best_J94
      by_cases h20 : (20 : Int32) ≤ I 15
      · rw [if_pos h20]; exact hg M hM
      · have hc20 : t < 20 := by
          rcases Nat.lt_or_ge t 20 with q | q
          · exact q
          · exfalso; apply h20; rw [h15]; exact nI_le (a := 20) q (by omega)
        rw [if_neg h20]
        have hin : ¬ (I 15 < 0 ∨ 20 ≤ (I 15).toNatClampNeg) := by rw [h15]; exact wp_in hc20 (by decide)
        rw [if_neg hin, Option.bind_some]
        exact hg _ (fun j hj => by simp [wb_um, hM j hj])

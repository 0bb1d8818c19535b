/-! a HOUSE's LINES: class and reference -/
def HRg (a g w p : Int32) : Prop := (0 ≤ a.toInt ∧ a.toInt ≤ 21599) ∧ (0 ≤ g.toInt ∧ g.toInt ≤ 2000000) ∧ (0 ≤ w.toInt ∧ w.toInt ≤ 10800) ∧ 1 ≤ p.toInt ∧ p.toInt ≤ 1000000
def H4 (m K : Nat → Nat → Int32) : Prop := ∀ j : Nat, j < 28 → (m 0 j = K 9 j ∧ m 1 j = K 10 j ∧ m 2 j = K 11 j ∧ m 3 j = K 12 j) ∧ HRg (K 9 j) (K 10 j) (K 11 j) (K 12 j)
theorem tw_of {N : Nat} {I : Nat → Int32} {M : Nat → Nat → Int32} {w : Nat} {r : Int32} {r2 : (Nat → Int32) × (Nat → Nat → Int32)} (h : fX9_isWord N I M w = some r) (hr : ¬ r = 0) (h2 : fX9_step N I M = some r2) : fX9_takeWord N I M w = some (1, r2.1, r2.2) := by
  unfold fX9_takeWord
  rw [h]
  show (if r = 0 then _ else _) = _
  rw [if_neg hr, h2]
  rfl
/-- a word and a number of both -/
theorem wn_tk {N N2 : Nat} {M K : Nat → Nat → Int32} {I J : Nat → Int32} {L : Int64} {k : Nat} (hk : k < 19) {a b : Int32} {R : Int32 × (Nat → Int32) × (Nat → Nat → Int32)} {S : Int32 × (Nat → Int32) × Int64 × (Nat → Nat → Int32)} (tk : TK I J L M K) (j4 : J 4 = 0) (h : fX9_takeWord N I M (wz k) = some R) (g : fX12_named N2 J L K (nI k) a b = some S) : (R.1 = 0 ∧ ¬ S.2.1 4 = 0) ∨ (R.1 = 1 ∧ R.2.2 = M ∧ ∀ Q, fX9_takeNumber N R.2.1 M a b = some Q → (Q.1 = 0 ∧ ¬ S.2.1 4 = 0) ∨ (Q.1 = 1 ∧ TK Q.2.1 S.2.1 S.2.2.1 M K ∧ S.2.1 4 = 0 ∧ Q.2.1 6 = S.1 ∧ a.toInt ≤ S.1.toInt ∧ S.1.toInt ≤ b.toInt ∧ Q.2.2 = M ∧ S.2.2.2 = K ∧ (I 3).toInt ≤ (Q.2.1 2).toInt)) := by
  rcases wrd_tk hk tk j4 h g with ⟨c1, c2, c3, c4, J1, L1, c5, c6, c7⟩ | ⟨c1, c2, c3, c4⟩
  · right
    refine ⟨c1, c2, fun Q hQ => ?_⟩
    rcases num_tk c5 c6 hQ c7 with ⟨d1, d2, d3, d4, d5, d6, d7, d8, d9, d10⟩ | ⟨d1, d2, d3, d4⟩
    · refine Or.inr ⟨d1, d2, d3, d4, d5, d6, d7, d8, ?_⟩
      have := c5.2.2.2.2.1
      omega
    · exact Or.inl ⟨d1, d4.2⟩
  · exact Or.inl ⟨c1, c4.2⟩
theorem n102 {N : Nat} {J : Nat → Int32} {L : Int64} {K : Nat → Nat → Int32} {y1 y2 y3 y4 y5 y6 : Int32} {S : (Nat → Int32) × Int64 × (Nat → Nat → Int32)} (j4 : ¬ J 4 = 0) (h : fX12_readsSet_J102 N J L K y1 y2 y3 y4 y5 y6 = some S) : S = (J, L, K) := by
  unfold fX12_readsSet_J102 at h
  rw [good2 j4, Option.bind_some] at h
  exact (Option.some.inj (wb_t (c := (0 : Int32) = 0) rfl h)).symm
theorem g102 {N : Nat} {J : Nat → Int32} {L : Int64} {K : Nat → Nat → Int32} {y1 y2 y3 y4 y5 y6 : Int32} {S : (Nat → Int32) × Int64 × (Nat → Nat → Int32)} (j4 : J 4 = 0) (h : fX12_readsSet_J102 N J L K y1 y2 y3 y4 y5 y6 = some S) : S.1 = J ∧ S.2.1 = L ∧ S.2.2 8 = K 8 ∧ S.2.2 13 = K 13 ∧ S.2.2 14 = K 14 ∧ S.2.2 15 = K 15 ∧ S.2.2 9 = upd (K 9) ((7 : Int32) * y1 + y2).toNatClampNeg y3 ∧ S.2.2 10 = upd (K 10) ((7 : Int32) * y1 + y2).toNatClampNeg y4 ∧ S.2.2 11 = upd (K 11) ((7 : Int32) * y1 + y2).toNatClampNeg y5 ∧ S.2.2 12 = upd (K 12) ((7 : Int32) * y1 + y2).toNatClampNeg y6 := by
  unfold fX12_readsSet_J102 at h
  rw [good1 j4, Option.bind_some] at h
  have h := wb_f (c := (1 : Int32) = 0) (by decide) h
  obtain ⟨-, h⟩ := wb_n h
  obtain ⟨K1, e1, h⟩ := wb_v h
  obtain ⟨-, h⟩ := wb_n h
  obtain ⟨K2, e2, h⟩ := wb_v h
  obtain ⟨-, h⟩ := wb_n h
  obtain ⟨K3, e3, h⟩ := wb_v h
  obtain ⟨-, h⟩ := wb_n h
  obtain ⟨K4, e4, h⟩ := wb_v h
  have h := Option.some.inj h
  subst h
  rw [e3, e2, e1] at e4
  refine ⟨rfl, rfl, ?_, ?_, ?_, ?_, ?_, ?_, ?_, ?_⟩ <;> (show K4 _ = _; rw [e4]; rfl)
/-- behind the name of a set's LINE -/
noncomputable def tset (N2 : Nat) (J : Nat → Int32) (L : Int64) (K : Nat → Nat → Int32) (y1 y2 : Int32) : Option ((Nat → Int32) × Int64 × (Nat → Nat → Int32)) :=
  (fX12_named N2 J L K (12 : Int32) (0 : Int32) (21599 : Int32)).bind fun r7 => (some (r7.1)).bind fun v8 => (fX12_named N2 r7.2.1 r7.2.2.1 r7.2.2.2 (13 : Int32) (0 : Int32) (2000000 : Int32)).bind fun r9b => (some (r9b.1)).bind fun v10 => (fX12_isGood N2 r9b.2.1 r9b.2.2.1 r9b.2.2.2).bind fun r11 => if r11 = 0 then (fX12_readsSet_J102 N2 r9b.2.1 r9b.2.2.1 r9b.2.2.2 y1 y2 v8 v10 (0 : Int32) (1 : Int32)) else (fX12_knownWord N2 r9b.2.1 r9b.2.2.1 r9b.2.2.2).bind fun r12 => if r12 = (14 : Int32) then ((fX12_named N2 r9b.2.1 r9b.2.2.1 r9b.2.2.2 (14 : Int32) (0 : Int32) (10800 : Int32)).bind fun r13 => (some (r13.1)).bind fun v14 => (fX12_named N2 r13.2.1 r13.2.2.1 r13.2.2.2 (15 : Int32) (2 : Int32) (1000000 : Int32)).bind fun r15 => (some (r15.1)).bind fun v16 => fX12_readsSet_J102 N2 r15.2.1 r15.2.2.1 r15.2.2.2 y1 y2 v8 v10 v14 v16) else fX12_readsSet_J102 N2 r9b.2.1 r9b.2.2.1 r9b.2.2.2 y1 y2 v8 v10 (0 : Int32) (1 : Int32)
theorem n_tset {N : Nat} {J : Nat → Int32} {L : Int64} {K : Nat → Nat → Int32} {y1 y2 : Int32} {S : (Nat → Int32) × Int64 × (Nat → Nat → Int32)} (j4 : ¬ J 4 = 0) (h : tset N J L K y1 y2 = some S) : S = (J, L, K) := by
  unfold tset at h
  obtain ⟨r7, e7, h⟩ := wb_b h
  have e7 := nam_n j4 e7
  subst e7
  obtain ⟨v8, e8, h⟩ := wb_v h
  obtain ⟨r9, e9, h⟩ := wb_b h
  have e9 := nam_n j4 e9
  subst e9
  obtain ⟨v10, e10, h⟩ := wb_v h
  obtain ⟨r11, e11, h⟩ := wb_b h
  rcases good0 e11 with ⟨-, q⟩ | ⟨q, -⟩
  · exact absurd q j4
  · exact n102 j4 (wb_t q h)
theorem j32_t {N : Nat} {J : Nat → Int32} {L : Int64} {K : Nat → Nat → Int32} {y1 y2 z : Int32} {S : (Nat → Int32) × Int64 × (Nat → Nat → Int32)} (h : fX12_readsSet_J32 N J L K y1 y2 z = some S) : ∃ r6, fX12_need N J L K z = some r6 ∧ tset N r6.1 r6.2.1 r6.2.2 y1 y2 = some S := by
  unfold fX12_readsSet_J32 at h
  obtain ⟨r6, e6, h⟩ := wb_b h
  exact ⟨r6, e6, h⟩
theorem n32s {N : Nat} {J : Nat → Int32} {L : Int64} {K : Nat → Nat → Int32} {y1 y2 z : Int32} {S : (Nat → Int32) × Int64 × (Nat → Nat → Int32)} (j4 : ¬ J 4 = 0) (h : fX12_readsSet_J32 N J L K y1 y2 z = some S) : S = (J, L, K) := by
  obtain ⟨r6, e6, h⟩ := j32_t h
  have e6 := need_n j4 e6
  subst e6
  exact n_tset j4 h
theorem b32s {N : Nat} {J : Nat → Int32} {L : Int64} {K : Nat → Nat → Int32} {y1 y2 : Int32} {S : (Nat → Int32) × Int64 × (Nat → Nat → Int32)} (j4 : J 4 = 0) (h : fX12_readsSet_J32 N J L K y1 y2 0 = some S) : ¬ S.1 4 = 0 := by
  obtain ⟨r6, e6, h⟩ := j32_t h
  unfold fX12_need at e6
  rw [good1 j4, Option.bind_some] at e6
  have e6 := wb_f (c := (1 : Int32) = 0) (by decide) e6
  have e6 := wb_t (c := (0 : Int32) = 0) rfl e6
  obtain ⟨s6, f6, e6⟩ := wb_b e6
  have e6 := Option.some.inj e6
  subst e6
  have f6 := wrg0 j4 f6
  subst f6
  have h := n_tset (J := upd (upd J 4 1) 5 (J 9)) (show ¬ (1 : Int32) = 0 by decide) h
  subst h
  show ¬ (1 : Int32) = 0
  decide
/-- how a LINE without its sign ; ends for both: own state (class), all (reference) -/
def LO (I : Nat → Int32) (M : Nat → Nat → Int32) (R1 : Int32) (RI : Nat → Int32) (RM : Nat → Nat → Int32) (S : (Nat → Int32) × Int64 × (Nat → Nat → Int32)) : Prop := TK RI S.1 S.2.1 M S.2.2 ∧ S.1 4 = 0 ∧ RM = M ∧ (I 3).toInt ≤ (RI 3).toInt
theorem tabl {N N2 : Nat} {M K M0 : Nat → Nat → Int32} {I J I0 : Nat → Int32} {L : Int64} {y1 y2 : Int32} {R : Int32 × (Nat → Int32) × (Nat → Nat → Int32) × (Nat → Int32) × (Nat → Nat → Int32)} {S : (Nat → Int32) × Int64 × (Nat → Nat → Int32)} (tk : TK I J L M K) (j4 : J 4 = 0) (d : H4 M0 K) (h : fX5_readTable N I0 M0 I M ((7 : Int32) * y1 + y2) = some R)
    (g : tset N2 J L K y1 y2 = some S) :
    (R.1 = 0 ∧ ¬ S.1 4 = 0) ∨ (R.1 = 1 ∧ LO I M R.1 R.2.2.2.1 R.2.2.2.2 S ∧ R.2.1 = I0 ∧ R.2.2.1 4 = M0 4 ∧ R.2.2.1 5 = M0 5 ∧ H4 R.2.2.1 S.2.2) := by
  unfold fX5_readTable at h
  unfold tset at g
  obtain ⟨r1, e1, h⟩ := wb_b h
  obtain ⟨s7, f7, g⟩ := wb_b g
  obtain ⟨v8, ev8, g⟩ := wb_v g
  obtain ⟨s9, f9, g⟩ := wb_b g
  obtain ⟨v10, ev10, g⟩ := wb_v g
  obtain ⟨s11, f11, g⟩ := wb_b g
  -- a fault at the first two words: nothing follows
  have bad9 : ¬ s9.2.1 4 = 0 → ¬ S.1 4 = 0 := by
    intro q
    rcases good0 f11 with ⟨-, q2⟩ | ⟨q2, -⟩
    · exact absurd q2 q
    · have g := n102 q (wb_t q2 g)
      subst g
      exact q
  have bad7 : ¬ s7.2.1 4 = 0 → ¬ S.1 4 = 0 := by
    intro q
    have f9 := nam_n q f9
    subst f9
    exact bad9 q
  rcases wn_tk (k := 12) (by decide) tk j4 e1 f7 with ⟨c1, c2⟩ | ⟨c1, c2, c3⟩
  · have h := Option.some.inj (wb_t c1 h)
    subst h
    exact Or.inl ⟨rfl, bad7 c2⟩
  · have h := wb_f (by rw [c1]; decide) h
    rw [c2] at h
    obtain ⟨r2, e2, h⟩ := wb_b h
    rcases c3 r2 e2 with ⟨d1, d2⟩ | ⟨d1, d2, d3, d4, d5, d6, d7, d8, d9⟩
    · have h := Option.some.inj (wb_t d1 h)
      subst h
      exact Or.inl ⟨rfl, bad7 d2⟩
    · have h := wb_f (by rw [d1]; decide) h
      obtain ⟨-, h⟩ := wb_n h
      obtain ⟨M3, eM3, h⟩ := wb_v h
      rw [d7] at h
      rw [d8] at f9
      obtain ⟨r4, e4, h⟩ := wb_b h
      rcases wn_tk (k := 13) (by decide) d2 d3 e4 f9 with ⟨k1, k2⟩ | ⟨k1, k2, k3⟩
      · have h := Option.some.inj (wb_t k1 h)
        subst h
        exact Or.inl ⟨rfl, bad9 k2⟩
      · have h := wb_f (by rw [k1]; decide) h
        rw [k2] at h
        obtain ⟨r5, e5, h⟩ := wb_b h
        rcases k3 r5 e5 with ⟨l1, l2⟩ | ⟨l1, l2, l3, l4, l5, l6, l7, l8, l9⟩
        · have h := Option.some.inj (wb_t l1 h)
          subst h
          exact Or.inl ⟨rfl, bad9 l2⟩
        · have h := wb_f (by rw [l1]; decide) h
          obtain ⟨-, h⟩ := wb_n h
          obtain ⟨M6, eM6, h⟩ := wb_v h
          obtain ⟨-, h⟩ := wb_n h
          obtain ⟨M7, eM7, h⟩ := wb_v h
          obtain ⟨-, h⟩ := wb_n h
          obtain ⟨M8, eM8, h⟩ := wb_v h
          rw [l7] at h
          rw [good1 l3] at f11
          have f11 := Option.some.inj f11
          have g := wb_f (by rw [← f11]; decide) g
          obtain ⟨s12, f12, g⟩ := wb_b g
          rw [l8] at g f12
          obtain ⟨r9, e9, h⟩ := wb_b h
          have l22 := l2
          obtain ⟨q, b1, b2, b3, b4, b5, b6, b7⟩ := l22
          have kk := (kw l2 f12).1 14 (by decide)
          rw [eM7, eM6, eM3] at eM8
          have mono : (I 3).toInt ≤ (r5.2.1 3).toInt := by
            have a1 := d2.2.2.2.2.1
            have a2 := l2.2.2.2.2.1
            omega
          rcases isw (w := 8) (by decide) b3 b4 (by have := q.2.2.2.1; have := q.2.2.2.2.1; omega) e9 with ⟨x1, x2⟩ | ⟨x1, x2⟩
          · have g := wb_t (kk.mpr x2) g
            have h := wb_f (by rw [x1]; decide) h
            obtain ⟨r10, e10, h⟩ := wb_b h
            obtain ⟨r11, e11, h⟩ := wb_b h
            obtain ⟨s13, f13, g⟩ := wb_b g
            obtain ⟨v14, ev14, g⟩ := wb_v g
            obtain ⟨s15, f15, g⟩ := wb_b g
            obtain ⟨v16, ev16, g⟩ := wb_v g
            have bad15 : ¬ s15.2.1 4 = 0 → ¬ S.1 4 = 0 := by
              intro q
              have g := n102 q g
              subst g
              exact q
            have bad13 : ¬ s13.2.1 4 = 0 → ¬ S.1 4 = 0 := by
              intro q
              have f15 := nam_n q f15
              subst f15
              exact bad15 q
            have et := tw_of e9 (by rw [x1]; decide) e10
            rcases wn_tk (k := 14) (by decide) l2 l3 et f13 with ⟨o1, o2⟩ | ⟨o1, o2, o3⟩
            · exact absurd o1 (show ¬ (1 : Int32) = 0 by decide)
            · have o2 : r10.2 = M := o2
              rw [o2] at e11
              rcases o3 r11 e11 with ⟨p1, p2⟩ | ⟨p1, p2, p3, p4, p5, p6, p7, p8, p9⟩
              · have h := Option.some.inj (wb_t p1 h)
                subst h
                exact Or.inl ⟨rfl, bad13 p2⟩
              · have h := wb_f (by rw [p1]; decide) h
                obtain ⟨-, h⟩ := wb_n h
                obtain ⟨M12, eM12, h⟩ := wb_v h
                rw [p7] at h
                rw [p8] at f15
                obtain ⟨r13, e13, h⟩ := wb_b h
                rcases wn_tk (k := 15) (by decide) p2 p3 e13 f15 with ⟨u1, u2⟩ | ⟨u1, u2, u3⟩
                · have h := Option.some.inj (wb_t u1 h)
                  subst h
                  exact Or.inl ⟨rfl, bad15 u2⟩
                · have h := wb_f (by rw [u1]; decide) h
                  rw [u2] at h
                  obtain ⟨r14, e14, h⟩ := wb_b h
                  rcases u3 r14 e14 with ⟨w1, w2⟩ | ⟨w1, w2, w3, w4, w5, w6, w7, w8, w9⟩
                  · have h := Option.some.inj (wb_t w1 h)
                    subst h
                    exact Or.inl ⟨rfl, bad15 w2⟩
                  · have h := wb_f (by rw [w1]; decide) h
                    obtain ⟨-, h⟩ := wb_n h
                    obtain ⟨M15, eM15, h⟩ := wb_v h
                    have h := Option.some.inj h
                    subst h
                    rw [w8] at g
                    obtain ⟨z1, z2, z3, z4, z5, z6, z7, z8, z9, z10⟩ := g102 w3 g
                    rw [eM12, eM8] at eM15
                    right
                    refine ⟨rfl, ⟨?_, ?_, w7, ?_⟩, rfl, ?_, ?_, ?_⟩
                    · rw [z1, z2]
                      exact w2.cgK z3
                    · rw [z1]; exact w3
                    · have a1 := p2.2.2.2.2.1
                      have a2 := w2.2.2.2.2.1
                      have a3 := l2.2.2.2.2.1
                      show (I 3).toInt ≤ (r14.2.1 3).toInt
                      omega
                    · show M15 4 = M0 4
                      rw [eM15]; rfl
                    · show M15 5 = M0 5
                      rw [eM15]; rfl
                    · intro j hj
                      obtain ⟨⟨y1', y2', y3', y4'⟩, yr⟩ := d j hj
                      show (M15 0 j = _ ∧ M15 1 j = _ ∧ M15 2 j = _ ∧ M15 3 j = _) ∧ _
                      rw [z7, z8, z9, z10, eM15]
                      rw [← ev8] at d4 d5 d6
                      rw [← ev10] at l4 l5 l6
                      rw [← ev14] at p4 p5 p6
                      rw [← ev16] at w4 w5 w6
                      rw [d4, l4, p4, w4]
                      by_cases hj2 : j = ((7 : Int32) * y1 + y2).toNatClampNeg
                      · refine ⟨⟨?_, ?_, ?_, ?_⟩, ?_⟩
                        · show upd (M0 0) _ _ j = upd (K 9) _ _ j
                          unfold upd; rw [if_pos hj2, if_pos hj2]
                        · show upd (M0 1) _ _ j = upd (K 10) _ _ j
                          unfold upd; rw [if_pos hj2, if_pos hj2]
                        · show upd (upd (M0 2) _ _) _ _ j = upd (K 11) _ _ j
                          unfold upd; rw [if_pos hj2, if_pos hj2]
                        · show upd (upd (M0 3) _ _) _ _ j = upd (K 12) _ _ j
                          unfold upd; rw [if_pos hj2, if_pos hj2]
                        · unfold upd
                          rw [if_pos hj2, if_pos hj2, if_pos hj2, if_pos hj2]
                          have n0 : (0 : Int32).toInt = 0 := by decide
                          have n1 : (21599 : Int32).toInt = 21599 := by decide
                          have n2 : (2000000 : Int32).toInt = 2000000 := by decide
                          have n3 : (10800 : Int32).toInt = 10800 := by decide
                          have n4 : (2 : Int32).toInt = 2 := by decide
                          have n5 : (1000000 : Int32).toInt = 1000000 := by decide
                          exact ⟨⟨by omega, by omega⟩, ⟨by omega, by omega⟩, ⟨by omega, by omega⟩, by omega, by omega⟩
                      · refine ⟨⟨?_, ?_, ?_, ?_⟩, ?_⟩
                        · show upd (M0 0) _ _ j = upd (K 9) _ _ j
                          unfold upd; rw [if_neg hj2, if_neg hj2, y1']
                        · show upd (M0 1) _ _ j = upd (K 10) _ _ j
                          unfold upd; rw [if_neg hj2, if_neg hj2, y2']
                        · show upd (upd (M0 2) _ _) _ _ j = upd (K 11) _ _ j
                          unfold upd; rw [if_neg hj2, if_neg hj2, if_neg hj2, y3']
                        · show upd (upd (M0 3) _ _) _ _ j = upd (K 12) _ _ j
                          unfold upd; rw [if_neg hj2, if_neg hj2, if_neg hj2, y4']
                        · unfold upd
                          rw [if_neg hj2, if_neg hj2, if_neg hj2, if_neg hj2]
                          exact yr
          · have g := wb_f (fun z => x2 (kk.mp z)) g
            have h := Option.some.inj (wb_t x1 h)
            subst h
            obtain ⟨z1, z2, z3, z4, z5, z6, z7, z8, z9, z10⟩ := g102 l3 g
            right
            refine ⟨rfl, ⟨?_, ?_, rfl, mono⟩, rfl, ?_, ?_, ?_⟩
            · rw [z1, z2]
              exact l2.cgK z3
            · rw [z1]; exact l3
            · show M8 4 = M0 4
              rw [eM8]; rfl
            · show M8 5 = M0 5
              rw [eM8]; rfl
            · intro j hj
              obtain ⟨⟨y1', y2', y3', y4'⟩, yr⟩ := d j hj
              show (M8 0 j = _ ∧ M8 1 j = _ ∧ M8 2 j = _ ∧ M8 3 j = _) ∧ _
              rw [z7, z8, z9, z10, eM8]
              rw [← ev8] at d4 d5 d6
              rw [← ev10] at l4 l5 l6
              rw [d4, l4]
              by_cases hj2 : j = ((7 : Int32) * y1 + y2).toNatClampNeg
              · refine ⟨⟨?_, ?_, ?_, ?_⟩, ?_⟩
                · show upd (M0 0) _ _ j = upd (K 9) _ _ j
                  unfold upd; rw [if_pos hj2, if_pos hj2]
                · show upd (M0 1) _ _ j = upd (K 10) _ _ j
                  unfold upd; rw [if_pos hj2, if_pos hj2]
                · show upd (M0 2) _ _ j = upd (K 11) _ _ j
                  unfold upd; rw [if_pos hj2, if_pos hj2]
                · show upd (M0 3) _ _ j = upd (K 12) _ _ j
                  unfold upd; rw [if_pos hj2, if_pos hj2]
                · unfold upd
                  rw [if_pos hj2, if_pos hj2, if_pos hj2, if_pos hj2]
                  have n0 : (0 : Int32).toInt = 0 := by decide
                  have n1 : (21599 : Int32).toInt = 21599 := by decide
                  have n2 : (2000000 : Int32).toInt = 2000000 := by decide
                  exact ⟨⟨by omega, by omega⟩, ⟨by omega, by omega⟩, by decide, by decide⟩
              · refine ⟨⟨?_, ?_, ?_, ?_⟩, ?_⟩
                · show upd (M0 0) _ _ j = upd (K 9) _ _ j
                  unfold upd; rw [if_neg hj2, if_neg hj2, y1']
                · show upd (M0 1) _ _ j = upd (K 10) _ _ j
                  unfold upd; rw [if_neg hj2, if_neg hj2, y2']
                · show upd (M0 2) _ _ j = upd (K 11) _ _ j
                  unfold upd; rw [if_neg hj2, if_neg hj2, y3']
                · show upd (M0 3) _ _ j = upd (K 12) _ _ j
                  unfold upd; rw [if_neg hj2, if_neg hj2, y4']
                · unfold upd
                  rw [if_neg hj2, if_neg hj2, if_neg hj2, if_neg hj2]
                  exact yr

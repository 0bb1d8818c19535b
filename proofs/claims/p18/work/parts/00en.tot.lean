theorem tt_rs32 {N : Nat} (hN : 3000000000 ≤ N) (I : Nat → Int32) (L : Int64) (M : Nat → Nat → Int32) (y1 y2 z : Int32) (k : KX12 I M) (h : (I 4).toInt ≠ 0 ∨ z.toInt = 0 ∨ ((0 ≤ y1.toInt ∧ y1.toInt ≤ 3) ∧ (0 ≤ y2.toInt ∧ y2.toInt ≤ 6))) : wq (fX12_readsSet_J32 N I L M y1 y2 z) (RP I (M 12)) := by
  unfold fX12_readsSet_J32
  have l_0 := il_0
  have l_1 := il_1
  have l_2 := il_2
  have l_m := il_1000000
  refine wq_b (tt_need hN I L M z k) (fun r6 h6 => ?_)
  obtain ⟨n6, g6⟩ := h6
  rw [n6.1]
  refine wq_b (tt_named hN r6.1 r6.2.1 M 12 0 21599 n6.2.2.1) (fun r7 h7 => ?_)
  obtain ⟨n7, -⟩ := h7
  refine wq_v (fun v8 e8 => ?_)
  rw [n7.1]
  refine wq_b (tt_named hN r7.2.1 r7.2.2.1 M 13 0 2000000 n7.2.2.1) (fun r9 h9 => ?_)
  obtain ⟨n9, -⟩ := h9
  refine wq_v (fun v10 e10 => ?_)
  rw [n9.1]
  have na : NP I M r9.2 := NP.tr (NP.tr n6 n7) n9
  have key : ∀ (J : Nat → Int32) (L2 : Int64) (p5 p6 : Int32), NP I M (J, L2, M) → ((J 4).toInt ≠ 0 ∨ (1 ≤ p6.toInt ∧ p6.toInt ≤ 1000000)) → (∀ q : (J 4).toInt = 0, (r6.1 4).toInt = 0) → wq (fX12_readsSet_J102 N J L2 M y1 y2 v8 v10 p5 p6) (RP I (M 12)) := by
    intro J L2 p5 p6 nJ h6' hs
    refine wq_w (tt_rs102 N J L2 M y1 y2 v8 v10 p5 p6 nJ.2.2.1 ?_) (fun q g => RP.tr nJ g)
    by_cases q : (J 4).toInt = 0
    · right
      have q6 := hs q
      have a := n6.2.2.2.1
      have b := h6'.resolve_left (fun w => w q)
      have g := g6.resolve_left (fun w => w q6)
      rcases h with w | w | w
      · exact absurd w (by omega)
      · exact absurd w g.1
      · exact ⟨w.1, w.2, b⟩
    · exact Or.inl q
  have s9 : (r9.2.1 4).toInt = 0 → (r6.1 4).toInt = 0 := by
    have a := n7.2.2.2.1
    have b := n9.2.2.2.1
    omega
  have n9' : NP I M (r9.2.1, r9.2.2.1, M) := ⟨rfl, na.2.1, na.2.2.1, na.2.2.2.1, na.2.2.2.2⟩
  refine wq_b (tt_good N r9.2.1 r9.2.2.1 M) (fun r11 h11 => ?_)
  refine wq_eq (fun hc => ?_) (fun hc => ?_)
  · exact key r9.2.1 r9.2.2.1 0 1 n9' (Or.inr ⟨by decide, by decide⟩) s9
  · refine wq_b (tt_fX12_knownWord hN r9.2.1 r9.2.2.1 M na.2.2.1) (fun r12 h12 => ?_)
    refine wq_i (fun _ => ?_) (fun _ => ?_)
    · refine wq_b (tt_named hN r9.2.1 r9.2.2.1 M 14 0 10800 na.2.2.1) (fun r13 h13 => ?_)
      obtain ⟨n13, -⟩ := h13
      refine wq_v (fun v14 e14 => ?_)
      rw [n13.1]
      refine wq_b (tt_named hN r13.2.1 r13.2.2.1 M 15 2 1000000 n13.2.2.1) (fun r15 h15 => ?_)
      obtain ⟨n15, g15⟩ := h15
      refine wq_v (fun v16 e16 => ?_)
      rw [n15.1]
      have nb : NP I M r15.2 := NP.tr (NP.tr na n13) n15
      refine key r15.2.1 r15.2.2.1 v14 v16 ⟨rfl, nb.2.1, nb.2.2.1, nb.2.2.2.1, nb.2.2.2.2⟩ ?_ ?_
      · rw [e16]; omega
      · have a := n13.2.2.2.1
        have b := n15.2.2.2.1
        omega
    · exact key r9.2.1 r9.2.2.1 0 1 n9' (Or.inr ⟨by decide, by decide⟩) s9
theorem tt_rs {N : Nat} (hN : 3000000000 ≤ N) (I : Nat → Int32) (L : Int64) (M : Nat → Nat → Int32) (k : KX12 I M) : wq (fX12_readsSet N I L M) (RP I (M 12)) := by
  unfold fX12_readsSet fX12_readsSet_J31
  have l_0 := il_0
  have l_3 := il_3
  have l_7 := il_7
  refine wq_b (tt_steps hN I L M k) (fun r17 h17 => ?_)
  have n17 := NP.of h17
  rw [n17.1]
  refine wq_b (tt_number hN r17.1 r17.2.1 M 0 3 n17.2.2.1) (fun r18 h18 => ?_)
  obtain ⟨n18, g18⟩ := h18
  refine wq_v (fun v19 e19 => ?_)
  rw [n18.1]
  have na : NP I M r18.2 := NP.tr n17 n18
  refine wq_b (tt_fX12_knownWord hN r18.2.1 r18.2.2.1 M na.2.2.1) (fun r20 h20 => ?_)
  refine wq_lt (fun hc => ?_) (fun hc => ?_)
  · exact wq_w (tt_rs32 hN r18.2.1 r18.2.2.1 M v19 r20 0 na.2.2.1 (Or.inr (Or.inl il_0))) (fun q g => RP.tr na g)
  · refine wq_le (fun hc2 => ?_) (fun hc2 => ?_)
    · exact wq_w (tt_rs32 hN r18.2.1 r18.2.2.1 M v19 r20 0 na.2.2.1 (Or.inr (Or.inl il_0))) (fun q g => RP.tr na g)
    · refine wq_w (tt_rs32 hN r18.2.1 r18.2.2.1 M v19 r20 1 na.2.2.1 ?_) (fun q g => RP.tr na g)
      rw [e19]
      omega
/-- the row of RISING numbers under way -/
def RW (M : Nat → Nat → Int32) (c z : Nat) (s : Int32) : Prop := (∀ w : Nat, w < z → 1 ≤ (M 13 (12 * c + w)).toInt ∧ (M 13 (12 * c + w)).toInt ≤ 3600) ∧ s.toInt = sm (M 13) (12 * c) z ∧ (z = 12 → s.toInt = 3600)
theorem sm_up (f : Nat → Int32) (a i : Nat) (v : Int32) : ∀ n : Nat, (∀ w : Nat, w < n → a + w ≠ i) → sm (upd f i v) a n = sm f a n := by
  intro n
  induction n with
  | zero => intro _; rfl
  | succ n ih =>
    intro h
    show sm (upd f i v) a n + (upd f i v (a + n)).toInt = sm f a n + (f (a + n)).toInt
    rw [ih (fun w hw => h w (by omega))]
    have e : upd f i v (a + n) = f (a + n) := by unfold upd; rw [if_neg (h n (by omega))]
    rw [e]
theorem sm_le (f : Nat → Int32) (a : Nat) : ∀ n : Nat, (∀ w : Nat, w < n → 1 ≤ (f (a + w)).toInt ∧ (f (a + w)).toInt ≤ 3600) → 0 ≤ sm f a n ∧ sm f a n ≤ 3600 * n := by
  intro n
  induction n with
  | zero => intro _; simp [sm]
  | succ n ih =>
    intro h
    have a1 := ih (fun w hw => h w (by omega))
    have a2 := h n (by omega)
    show 0 ≤ sm f a n + (f (a + n)).toInt ∧ sm f a n + (f (a + n)).toInt ≤ _
    omega
theorem RS.um {n : Int32} {f : Nat → Int32} (h : RS n f) {i : Nat} {v : Int32} (hi : ∀ c w : Nat, (c : Int) < n.toInt → w < 12 → 12 * c + w ≠ i) : RS n (upd f i v) := by
  intro c hc
  obtain ⟨a, b⟩ := h c hc
  refine ⟨fun z hz => ?_, ?_⟩
  · have e : upd f i v (12 * c + z) = f (12 * c + z) := by unfold upd; rw [if_neg (hi c z hc hz)]
    rw [e]; exact a z hz
  · rw [sm_up f (12 * c) i v 12 (fun w hw => hi c w hc hw)]; exact b
theorem tt_rc155 (N : Nat) (I : Nat → Int32) (L : Int64) (M : Nat → Nat → Int32) (c : Nat) (hc : c ≤ 6) (k : KX12 I M) (h13 : I 13 = nI c) (h : (I 4).toInt ≠ 0 ∨ RV (M 13) c) : wq (fX12_readsClimate_J155 N I L M) (RP I (M 12)) := by
  unfold fX12_readsClimate_J155
  have l_0 := il_0
  have l_1 := il_1
  refine wq_b (tt_good N I L M) (fun r1 h1 => ?_)
  refine wq_eq (fun hq => ?_) (fun hq => ?_)
  · exact wq_s (RP.of (M := M) (NP.rf k))
  · have k13 := k.i13
    have e13 : (I 13).toInt = c := by rw [h13, nI_toInt (by omega)]
    have ta := ia_add (I 13) (1 : Int32) (by omega) (by omega)
    refine wq_v (fun J eJ => ?_)
    subst eJ
    refine wq_s ⟨KX12.si13 k ⟨by omega, by omega⟩ (fun d hd => ?_), by show _ ∨ (I 4).toInt ≠ 0; omega, Int.le_refl _, fun h => h⟩
    rcases Nat.lt_or_ge d c with q | q
    · exact k.er2 d (by omega)
    · have : d = c := by omega
      subst this
      exact h.resolve_left (by omega)
theorem tt_rc111 {N : Nat} (hN : 3000000000 ≤ N) (g : (Nat → Int32) → Int64 → (Nat → Nat → Int32) → Int32 → Int32 → Option ((Nat → Int32) × Int64 × (Nat → Nat → Int32))) (I : Nat → Int32) (L : Int64) (M : Nat → Nat → Int32) (c z : Nat) (s : Int32) (hc : c ≤ 6) (hz : z < 12) (k : KX12 I M) (h13 : I 13 = nI c) (h : (I 4).toInt ≠ 0 ∨ (RW M c z s ∧ (z = 11 → (I 8).toInt = 2 → (I 10).toInt ≤ 7 → (I 11).toInt = 3600 - s.toInt)))
    (hg : ∀ (J : Nat → Int32) (L2 : Int64) (M2 : Nat → Nat → Int32) (s2 : Int32), KX12 J M2 → J 13 = nI c → ((J 4).toInt ≠ 0 ∨ RW M2 c (z + 1) s2) → ((I 4).toInt = 0 ∨ (J 4).toInt ≠ 0) → (I 7).toInt ≤ (J 7).toInt → M2 12 = M 12 → wq (g J L2 M2 s2 (nI (z + 1))) (RP I (M 12))) : wq (fX12_readsClimate_J111 N g I L M s (nI z)) (RP I (M 12)) := by
  unfold fX12_readsClimate_J111
  have l_0 := il_0
  have l_1 := il_1
  have l_3600 := il_3600
  refine wq_b (tt_number hN I L M 1 3600 k) (fun r6 h6 => ?_)
  obtain ⟨n6, g6⟩ := h6
  refine wq_v (fun v7 e7 => ?_)
  rw [n6.1]
  have q13 : r6.2.1 13 = nI c := (n6.2.1 13 (by decide) (by decide) (by decide) (by decide) (by decide) (by decide) (by decide)).trans h13
  refine wq_b (tt_good N r6.2.1 r6.2.2.1 M) (fun r8 h8 => ?_)
  refine wq_eq (fun hq => ?_) (fun hq => ?_)
  · refine wq_v (fun v9 e9 => wq_v (fun v10 e10 => ?_))
    rw [e10, nI_1]
    exact hg _ _ _ _ n6.2.2.1 q13 (Or.inl (by omega)) n6.2.2.2.1 n6.2.2.2.2 rfl
  · have e12 : (12 : Int32) * r6.2.1 13 + nI z = nI (12 * c + z) := by rw [q13, show (12 : Int32) = nI 12 from rfl, pk_mul, nI_add]
    rw [e12]
    have hin : ¬ (nI (12 * c + z) < 0 ∨ 84 ≤ (nI (12 * c + z)).toNatClampNeg) := wp_in (by omega) (by decide)
    rw [if_neg hin, nI_clamp (by omega)]
    refine wq_v (fun M11 e11 => wq_v (fun v12 ev12 => wq_v (fun v13 ev13 => ?_)))
    rw [ev13, nI_1]
    have i4 : (I 4).toInt = 0 := by have := n6.2.2.2.1; omega
    obtain ⟨⟨w1, w2, w3⟩, w4⟩ := h.resolve_left (fun q => q i4)
    obtain ⟨p1, p2, p3, p4, p5⟩ := g6.resolve_left (by omega)
    have hle := sm_le (M 13) (12 * c) z w1
    rw [e7] at ev12 e11
    have ta := ia_add s r6.1 (by omega) (by omega)
    have tv := congrArg Int32.toInt ev12
    have e13 : (r6.2.1 13).toInt = c := by rw [q13, nI_toInt (by omega)]
    refine hg _ _ M11 v12 ?_ q13 (Or.inr ⟨?_, ?_, ?_⟩) n6.2.2.2.1 n6.2.2.2.2 (by rw [e11]; rfl)
    · rw [e11]
      refine KX12.sm13 n6.2.2.1 (RS.um n6.2.2.1.er2 (fun d w hd hw => ?_))
      omega
    · intro w hw
      rw [e11]
      show 1 ≤ (upd (M 13) (12 * c + z) r6.1 (12 * c + w)).toInt ∧ (upd (M 13) (12 * c + z) r6.1 (12 * c + w)).toInt ≤ 3600
      unfold upd
      by_cases q : 12 * c + w = 12 * c + z
      · rw [if_pos q]; omega
      · rw [if_neg q]; exact w1 w (by omega)
    · rw [e11]
      show _ = sm (upd (M 13) (12 * c + z) r6.1) (12 * c) z + (upd (M 13) (12 * c + z) r6.1 (12 * c + z)).toInt
      rw [sm_up _ _ _ _ z (fun w hw => by omega)]
      have e : upd (M 13) (12 * c + z) r6.1 (12 * c + z) = r6.1 := by unfold upd; rw [if_pos rfl]
      rw [e]; omega
    · intro q
      have := w4 (by omega) p4 p5
      rw [← p1] at this
      omega
theorem tt_rc43 {N : Nat} (hN : 3000000000 ≤ N) (c : Nat) (hc : c ≤ 6) : ∀ (fu : Nat) (I : Nat → Int32) (L : Int64) (M : Nat → Nat → Int32) (z : Nat) (s : Int32), KX12 I M → I 13 = nI c → z ≤ 12 → ((I 4).toInt ≠ 0 ∨ RW M c z s) → 12 - z < fu → wq (fX12_readsClimate_L43 N fu I L M s (nI z)) (RP I (M 12)) := by
  intro fu
  induction fu with
  | zero => intro I L M z s k h13 hz h hm; omega
  | succ fu ih =>
    intro I L M z s k h13 hz h hm
    rw [fX12_readsClimate_L43.eq_2]
    have l_0 := il_0
    have l_2 := il_2
    have l_7 := il_7
    have l_11 := il_11
    have l_12 := il_12
    have l_3600 := il_3600
    have ez : (nI z).toInt = z := nI_toInt (by omega)
    refine wq_le (fun hq => ?_) (fun hq => ?_)
    · refine tt_rc155 N I L M c hc k h13 ?_
      rcases h with q | q
      · exact Or.inl q
      · right
        have : z = 12 := by omega
        subst this
        exact ⟨q.1, by rw [← q.2.1]; exact q.2.2 rfl⟩
    · refine wq_b (tt_good N I L M) (fun r15 h15 => ?_)
      refine wq_eq (fun hr => ?_) (fun hr => ?_)
      · exact tt_rc155 N I L M c hc k h13 (Or.inl (by omega))
      · have i4 : (I 4).toInt = 0 := by omega
        have hw := h.resolve_left (fun q => q i4)
        have hle := sm_le (M 13) (12 * c) z hw.1
        have hs := hw.2.1
        have ts := ia_sub (3600 : Int32) s (by omega) (by omega)
        refine wq_v (fun v16 e16 => ?_)
        have t16 := congrArg Int32.toInt e16
        have hgo : ∀ (J0 : Nat → Int32), ((I 4).toInt = 0 ∨ (J0 4).toInt ≠ 0) → (I 7).toInt ≤ (J0 7).toInt → ∀ (J : Nat → Int32) (L2 : Int64) (M2 : Nat → Nat → Int32) (s2 : Int32), KX12 J M2 → J 13 = nI c → ((J 4).toInt ≠ 0 ∨ RW M2 c (z + 1) s2) → ((J0 4).toInt = 0 ∨ (J 4).toInt ≠ 0) → (J0 7).toInt ≤ (J 7).toInt → M2 12 = M 12 → wq (fX12_readsClimate_L43 N fu J L2 M2 s2 (nI (z + 1))) (RP J0 (M 12)) := by
          intro J0 _ _ J L2 M2 s2 kJ j13 hJ a b e12
          exact wq_w (ih J L2 M2 (z + 1) s2 kJ j13 (by omega) hJ (by omega)) (fun q g => RP.go a b (by rw [e12] at g; exact g))
        have h97 : (z = 11 → (I 8).toInt = 2 → (I 10).toInt ≤ 7 → (I 11).toInt = 3600 - s.toInt) → wq (fX12_readsClimate_J97 N (fun q0 q1 q2 q3 q4 => fX12_readsClimate_L43 N fu q0 q1 q2 q3 q4) I L M s (nI z)) (RP I (M 12)) := by
          intro hx
          unfold fX12_readsClimate_J97 fX12_readsClimate_J98
          rw [if_neg (by decide)]
          exact tt_rc111 hN _ I L M c z s hc (by omega) k h13 (Or.inr ⟨hw, hx⟩) (hgo I (by omega) (Int.le_refl _))
        refine wq_eq (fun h11 => ?_) (fun h11 => ?_)
        · refine wq_eq (fun h8 => ?_) (fun h8 => ?_)
          · refine wq_lt (fun h10 => ?_) (fun h10 => ?_)
            · exact h97 (fun _ _ q => absurd q (by omega))
            · refine wq_eq (fun hv => ?_) (fun hv => ?_)
              · exact h97 (fun _ _ _ => by omega)
              · unfold fX12_readsClimate_J98
                rw [if_pos rfl]
                refine wq_b (tt_wrong N I L M 2 (by decide) k) (fun r14 h14 => ?_)
                rw [h14.1.1]
                have q13 : r14.1 13 = nI c := (h14.1.2.1 13 (by decide) (by decide) (by decide) (by decide) (by decide) (by decide) (by decide)).trans h13
                exact wq_w (tt_rc111 hN _ r14.1 r14.2.1 M c z s hc (by omega) h14.1.2.2.1 q13 (Or.inl h14.2) (hgo r14.1 h14.1.2.2.2.1 h14.1.2.2.2.2)) (fun q g => RP.go h14.1.2.2.2.1 h14.1.2.2.2.2 g)
          · exact h97 (fun _ q => absurd q (by omega))
        · exact h97 (fun q => absurd q (by omega))
theorem tt_rc14 {N : Nat} (hN : 3000000000 ≤ N) (I : Nat → Int32) (L : Int64) (M : Nat → Nat → Int32) (k : KX12 I M) (h : (I 4).toInt ≠ 0 ∨ (I 13).toInt ≤ 6) : wq (fX12_readsClimate_J14 N I L M) (RP I (M 12)) := by
  unfold fX12_readsClimate_J14
  have l_0 := il_0
  have k13 := k.i13
  refine wq_b (tt_good N I L M) (fun r3 h3 => ?_)
  refine wq_eq (fun hq => ?_) (fun hq => ?_)
  · exact wq_s (RP.of (M := M) (NP.rf k))
  · refine wq_b (tt_steps hN I L M k) (fun r4 h4 => ?_)
    have n4 := NP.of h4
    rw [n4.1]
    refine wq_b (tt_number hN r4.1 r4.2.1 M (r4.1 13) (r4.1 13) n4.2.2.1) (fun r5 h5 => ?_)
    obtain ⟨n5, -⟩ := h5
    rw [n5.1]
    have na : NP I M r5.2 := NP.tr n4 n5
    have e13 : r5.2.1 13 = I 13 := na.2.1 13 (by decide) (by decide) (by decide) (by decide) (by decide) (by decide) (by decide)
    have ex : I 13 = nI (I 13).toInt.toNat := by
      apply Int32.toInt_inj.mp
      rw [nI_toInt (by omega)]
      omega
    refine wq_w (tt_rc43 hN (I 13).toInt.toNat (by omega) N r5.2.1 r5.2.2.1 M 0 0 na.2.2.1 (e13.trans ex) (by omega) (Or.inr ⟨fun w hw => absurd hw (by omega), il_0, fun q => absurd q (by decide)⟩) (by omega)) (fun q g => RP.go na.2.2.2.1 na.2.2.2.2 g)
theorem tt_rc {N : Nat} (hN : 3000000000 ≤ N) (I : Nat → Int32) (L : Int64) (M : Nat → Nat → Int32) (k : KX12 I M) : wq (fX12_readsClimate N I L M) (RP I (M 12)) := by
  unfold fX12_readsClimate
  have l_7 := il_7
  have k13 := k.i13
  refine wq_eq (fun hc => ?_) (fun hc => ?_)
  · refine wq_b (tt_wrong N I L M 2 (by decide) k) (fun r h => ?_)
    rw [h.1.1]
    exact wq_w (tt_rc14 hN r.1 r.2.1 M h.1.2.2.1 (Or.inl h.2)) (fun q g => RP.tr h.1 g)
  · exact tt_rc14 hN I L M k (Or.inr (by omega))
theorem tt_rh14 {N : Nat} (hN : 3000000000 ≤ N) (I : Nat → Int32) (L : Int64) (M : Nat → Nat → Int32) (k : KX12 I M) (h14 : (I 4).toInt ≠ 0 ∨ (I 14).toInt ≤ 29) : wq (fX12_readsHand_J14 N I L M) (RP I (M 12)) := by
  unfold fX12_readsHand_J14
  have l_0 := il_0
  have l_1 := il_1
  have l_29 := il_29
  refine wq_b (tt_good N I L M) (fun r1 h1 => ?_)
  refine wq_eq (fun hc => ?_) (fun hc => ?_)
  · exact wq_s (RP.of (M := M) (NP.rf k))
  · refine wq_b (tt_steps hN I L M k) (fun r2 h2 => ?_)
    have n2 := NP.of h2
    rw [n2.1]
    refine wq_b (tt_number hN r2.1 r2.2.1 M 0 29 n2.2.2.1) (fun r3 h3 => ?_)
    obtain ⟨n3, g3⟩ := h3
    refine wq_v (fun v4 e4 => ?_)
    rw [n3.1]
    refine wq_b (tt_named hN r3.2.1 r3.2.2.1 M 18 0 29 n3.2.2.1) (fun r5 h5 => ?_)
    obtain ⟨n5, g5⟩ := h5
    refine wq_v (fun v6 e6 => ?_)
    rw [n5.1]
    have na : NP I M r5.2 := NP.tr (NP.tr n2 n3) n5
    refine wq_b (tt_good N r5.2.1 r5.2.2.1 M) (fun r7 h7 => ?_)
    refine wq_eq (fun hc2 => ?_) (fun hc2 => ?_)
    · refine wq_s ?_
      have := RP.of na
      unfold RP at this
      rw [n5.1] at this
      exact this
    · have e14 : r5.2.1 14 = I 14 := na.2.1 14 (by decide) (by decide) (by decide) (by decide) (by decide) (by decide) (by decide)
      have k14 := k.i14
      rw [e14]
      refine wq_in (n := 30) ⟨by omega, by omega⟩ ?_
      refine wq_v (fun M8 e8 => ?_)
      refine wq_in (n := 30) ⟨by omega, by omega⟩ ?_
      refine wq_v (fun M9 e9 => ?_)
      have ta := ia_add (I 14) (1 : Int32) (by omega) (by omega)
      refine wq_v (fun J eJ => ?_)
      subst e8
      subst e9
      subst eJ
      exact wq_s ⟨KX12.si14 (KX12.sm14 (KX12.sm15 na.2.2.1)) ⟨by omega, by omega⟩, na.2.2.2.1, na.2.2.2.2, fun h => h⟩
theorem tt_rh {N : Nat} (hN : 3000000000 ≤ N) (I : Nat → Int32) (L : Int64) (M : Nat → Nat → Int32) (k : KX12 I M) : wq (fX12_readsHand N I L M) (RP I (M 12)) := by
  unfold fX12_readsHand
  have l_30 := il_30
  have k14 := k.i14
  refine wq_eq (fun hc => ?_) (fun hc => ?_)
  · refine wq_b (tt_wrong N I L M 2 (by decide) k) (fun r h => ?_)
    rw [h.1.1]
    exact wq_w (tt_rh14 hN r.1 r.2.1 M h.1.2.2.1 (Or.inl h.2)) (fun q g => RP.tr h.1 g)
  · exact tt_rh14 hN I L M k (Or.inr (by omega))
theorem tt_copies {N : Nat} (hN : 3000000000 ≤ N) (n1 : Nat) (f1 : Nat → Int32) (n2 : Nat) (f2 : Nat → Int32) (h : n1 ≤ n2) (hn : n2 < 2 ^ 31) : fX12_copies N n1 f1 n2 f2 = some (fun j => if j < n1 then f1 j else f2 j) := by
  have hq := wp_loopS (F := fun fu st i => fX12_copies_L2 N n1 f1 n2 fu st i) n1 (fun k j => if j < k then f1 j else f2 j) (fun j => if j < n1 then f1 j else f2 j)
    (fun fu _ => by
      show fX12_copies_L2 N n1 f1 n2 (fu + 1) _ (nI n1) = _
      rw [fX12_copies_L2.eq_2, if_pos (show Int32.ofNat n1 ≤ nI n1 from nI_le (Nat.le_refl n1) (by omega))])
    (fun fu k hk => by
      show fX12_copies_L2 N n1 f1 n2 (fu + 1) _ (nI k) = _
      rw [fX12_copies_L2.eq_2, if_neg (show ¬ Int32.ofNat n1 ≤ nI k from nI_ge hk (by omega)), if_neg (wp_in hk (by omega)), if_neg (wp_in (n := n2) (by omega) (by omega)), Option.bind_some, Option.bind_some, nI_clamp (by omega), nI_1]
      congr 1
      funext j
      unfold upd
      by_cases h1 : j = k
      · subst h1; simp
      · by_cases h2 : j < k
        · simp [h1, h2, Nat.lt_succ_of_lt h2]
        · have h3 : ¬ j < k + 1 := by omega
          simp [h1, h2, h3])
    N 0 (Nat.zero_le _) (by omega)
  have e : (fun j => if j < 0 then f1 j else f2 j) = f2 := by funext j; simp
  rw [e] at hq
  exact hq
theorem sm_cg (f g : Nat → Int32) (a : Nat) : ∀ n : Nat, (∀ w : Nat, w < n → f (a + w) = g (a + w)) → sm f a n = sm g a n := by
  intro n
  induction n with
  | zero => intro _; rfl
  | succ n ih =>
    intro h
    show sm f a n + (f (a + n)).toInt = sm g a n + (g (a + n)).toInt
    rw [ih (fun w hw => h w (by omega)), h n (by omega)]
theorem RS.copy {n : Int32} {f g : Nat → Int32} (h : RS n f) (hn : n.toInt ≤ 7) : RS n (fun j => if j < 84 then f j else g j) := by
  intro c hc
  have e : ∀ w : Nat, w < 12 → (fun j => if j < 84 then f j else g j) (12 * c + w) = f (12 * c + w) := fun w hw => if_pos (by omega)
  obtain ⟨h1, h2⟩ := h c hc
  refine ⟨fun z hz => ?_, ?_⟩
  · rw [e z hz]; exact h1 z hz
  · rw [sm_cg _ f (12 * c) 12 e]; exact h2
theorem PD.copy {f g : Nat → Int32} (h : PD f) : PD (fun j => if j < 28 then f j else g j) := by
  intro j hj
  show 1 ≤ (if j < 28 then f j else g j).toInt ∧ (if j < 28 then f j else g j).toInt ≤ 1000000
  rw [if_pos hj]; exact h j hj
theorem PD.copy0 {f g : Nat → Int32} (h : PD f) (hg : ∀ j : Nat, 0 ≤ (g j).toInt ∧ (g j).toInt ≤ 1000000) : ∀ j : Nat, 0 ≤ ((fun j => if j < 28 then f j else g j) j).toInt ∧ ((fun j => if j < 28 then f j else g j) j).toInt ≤ 1000000 := by
  intro j
  by_cases q : j < 28
  · have := PD.copy (g := g) h j q; omega
  · show 0 ≤ (if j < 28 then f j else g j).toInt ∧ (if j < 28 then f j else g j).toInt ≤ 1000000
    rw [if_neg q]; exact hg j
theorem KX12.back {I : Nat → Int32} {M : Nat → Nat → Int32} (k : KX12 I M) {f0 f1 f2 f3 f4 f5 f6 : Nat → Int32} (h3 : PD f3) (h4 : RS (I 13) f4) : KX12 (upd (upd I 1 (I 13)) 2 (I 14)) (wb_mm (wb_mm (wb_mm (wb_mm (wb_mm (wb_mm (wb_mm M 0 f0) 1 f1) 2 f2) 3 f3) 4 f4) 5 f5) 6 f6) := ⟨k.i13, k.i14, k.i3, k.i6, k.i7, k.i12, k.i13, k.i14, k.i16, k.i17, k.i18, k.i19, k.m7, k.m12, k.m16, k.m23, k.m24, k.m27, k.m35, k.m36, h4, k.er2, k.een, k.edn, k.elv, k.ese, k.esi, h3, trivial⟩
theorem KX12.fore {I : Nat → Int32} {M : Nat → Nat → Int32} (k : KX12 I M) {f0 f1 f2 f3 f4 f5 f6 : Nat → Int32} (h3 : ∀ j : Nat, 0 ≤ (f3 j).toInt ∧ (f3 j).toInt ≤ 1000000) (h4 : RS (I 1) f4) : KX12 (upd (upd I 13 (I 1)) 14 (I 2)) (wb_mm (wb_mm (wb_mm (wb_mm (wb_mm (wb_mm (wb_mm M 9 f0) 10 f1) 11 f2) 12 f3) 13 f4) 14 f5) 15 f6) := ⟨k.i1, k.i2, k.i3, k.i6, k.i7, k.i12, k.i1, k.i2, k.i16, k.i17, k.i18, k.i19, k.m7, h3, k.m16, k.m23, k.m24, k.m27, k.m35, k.m36, k.er1, h4, k.een, k.edn, k.elv, k.ese, k.esi, k.epd, trivial⟩
theorem tt_hs203 {N : Nat} (hN : 3000000000 ≤ N) (x : Int32) (I : Nat → Int32) (L : Int64) (M : Nat → Nat → Int32) (k : KX12 I M) (pd : PD (M 12)) : wq (fX12_house_J203 N x I L M) (fun r => KX12 r.2.1 r.2.2.2 ∧ True) := by
  unfold fX12_house_J203
  refine wq_b (tt_good N I L M) (fun r1 h1 => ?_)
  refine wq_i (fun hc => wq_s ⟨k, trivial⟩) (fun hc => ?_)
  rw [Option.bind_some, Option.bind_some]
  rw [tt_copies hN 28 _ 28 _ (by omega) (by decide), Option.bind_some, Option.bind_some]
  rw [tt_copies hN 28 _ 28 _ (by omega) (by decide), Option.bind_some, Option.bind_some]
  rw [tt_copies hN 28 _ 28 _ (by omega) (by decide), Option.bind_some, Option.bind_some]
  rw [tt_copies hN 28 _ 28 _ (by omega) (by decide), Option.bind_some, Option.bind_some]
  rw [tt_copies hN 84 _ 84 _ (by omega) (by decide), Option.bind_some, Option.bind_some]
  rw [tt_copies hN 30 _ 30 _ (by omega) (by decide), Option.bind_some, Option.bind_some]
  rw [tt_copies hN 30 _ 30 _ (by omega) (by decide), Option.bind_some, Option.bind_some]
  exact wq_s ⟨KX12.back k (PD.copy pd) (RS.copy k.er2 k.i13.2), trivial⟩
theorem tt_hs183 {N : Nat} (hN : 3000000000 ≤ N) (x : Int32) (g : (Nat → Int32) → Int64 → (Nat → Nat → Int32) → Option (Int32 × (Nat → Int32) × Int64 × (Nat → Nat → Int32))) (I : Nat → Int32) (L : Int64) (M : Nat → Nat → Int32) (k : KX12 I M) (pd : PD (M 12)) (Q : Int32 × (Nat → Int32) × Int64 × (Nat → Nat → Int32) → Prop) (hg : ∀ (J : Nat → Int32) (l : Int64) (m : Nat → Nat → Int32), KX12 J m → PD (m 12) → ((J 4).toInt ≠ 0 ∨ (J 8).toInt = 0 ∨ (I 7).toInt < (J 7).toInt) → wq (g J l m) Q) : wq (fX12_house_J183 N x g I L M) Q := by
  unfold fX12_house_J183
  refine wq_i (fun hc => ?_) (fun hc => ?_)
  · refine wq_b (tt_need hN I L M (1 : Int32) k) (fun r h => ?_)
    refine hg _ _ _ (by rw [h.1.1]; exact h.1.2.2.1) (by rw [h.1.1]; exact pd) ?_
    rcases h.2 with q | ⟨-, q⟩
    · exact Or.inl q
    · exact Or.inr q
  · refine wq_b (tt_need hN I L M (0 : Int32) k) (fun r h => ?_)
    refine hg _ _ _ (by rw [h.1.1]; exact h.1.2.2.1) (by rw [h.1.1]; exact pd) ?_
    rcases h.2 with q | ⟨-, q⟩
    · exact Or.inl q
    · exact Or.inr q
theorem tt_hs120 {N : Nat} (hN : 3000000000 ≤ N) (x : Int32) : ∀ (fu : Nat) (I : Nat → Int32) (L : Int64) (M : Nat → Nat → Int32), KX12 I M → PD (M 12) → 0 < fu → ((I 4).toInt ≠ 0 ∨ (I 8).toInt = 0 ∨ 601 - (I 7).toInt < (fu : Int)) → wq (fX12_house_L120 N x fu I L M) (fun r => KX12 r.2.1 r.2.2.2 ∧ True) := by
  intro fu
  induction fu with
  | zero => intro I L M k pd h0 h; exact absurd h0 (by decide)
  | succ fu ih =>
    intro I L M k pd h0 h
    rw [fX12_house_L120.eq_2]
    refine wq_b (tt_good N I L M) (fun r1 h1 => ?_)
    have l_0 := il_0
    refine wq_eq (fun hc => tt_hs203 hN x I L M k pd) (fun hc => ?_)
    refine wq_eq (fun hc2 => tt_hs203 hN x I L M k pd) (fun hc2 => ?_)
    have h4 : (I 4).toInt = 0 := by omega
    have hm : 601 - (I 7).toInt < ((fu + 1 : Nat) : Int) := by omega
    have nx : ∀ (r : (Nat → Int32) × Int64 × (Nat → Nat → Int32)), RP I (M 12) r → wq (fX12_house_J183 N x (fun q0 q1 q2 => fX12_house_L120 N x fu q0 q1 q2) r.1 r.2.1 r.2.2) (fun r => KX12 r.2.1 r.2.2.2 ∧ True) := by
      intro r hr
      refine tt_hs183 hN x _ r.1 r.2.1 r.2.2 hr.1 (hr.2.2.2 pd) _ (fun J l m kj pj hj => ?_)
      have h7 := hr.2.2.1
      have j7 := kj.i7
      have i7 := k.i7
      refine ih J l m kj pj (by omega) ?_
      omega
    refine wq_b (tt_fX12_knownWord hN I L M k) (fun r2 h2 => ?_)
    refine wq_i (fun hc => wq_b (tt_rs hN I L M k) (fun r h => nx r h)) (fun hc => ?_)
    refine wq_i (fun hc => wq_b (tt_rc hN I L M k) (fun r h => nx r h)) (fun hc => ?_)
    refine wq_i (fun hc => wq_b (tt_rh hN I L M k) (fun r h => nx r h)) (fun hc => ?_)
    exact wq_b (tt_wrong N I L M (1 : Int32) (by decide) k) (fun r h => nx r (RP.of h.1))
theorem tt_fX12_house {N : Nat} (hN : 3000000000 ≤ N) (I0 : Nat → Int32) (L0 : Int64) (M0 : Nat → Nat → Int32) (x1 : Int32) (k_I0 : KX12 I0 M0) : wq (fX12_house N I0 L0 M0 x1) (fun r => KX12 r.2.1 r.2.2.2 ∧ True) := by
  unfold fX12_house
  refine wq_v (fun I1 e1 => ?_)
  have k1 : KX12 I1 M0 := by rw [e1]; exact KX12.si0 k_I0
  refine wq_v (fun I2 e2 => ?_)
  have k2 : KX12 I2 M0 := by rw [e2]; exact KX12.si12 k1 ⟨by decide, by decide⟩
  refine wq_b (tt_fX12_begins hN I2 L0 M0 x1 k2) (fun r h => ?_)
  obtain ⟨-, k, -⟩ := h
  refine wq_i (fun hc => wq_s ⟨k, trivial⟩) (fun hc => ?_)
  rw [Option.bind_some, Option.bind_some]
  rw [tt_copies hN 28 _ 28 _ (by omega) (by decide), Option.bind_some, Option.bind_some]
  rw [tt_copies hN 28 _ 28 _ (by omega) (by decide), Option.bind_some, Option.bind_some]
  rw [tt_copies hN 28 _ 28 _ (by omega) (by decide), Option.bind_some, Option.bind_some]
  rw [tt_copies hN 28 _ 28 _ (by omega) (by decide), Option.bind_some, Option.bind_some]
  rw [tt_copies hN 84 _ 84 _ (by omega) (by decide), Option.bind_some, Option.bind_some]
  rw [tt_copies hN 30 _ 30 _ (by omega) (by decide), Option.bind_some, Option.bind_some]
  rw [tt_copies hN 30 _ 30 _ (by omega) (by decide), Option.bind_some, Option.bind_some]
  have kf := KX12.fore k (f0 := fun j => if j < 28 then r.2.2.2 0 j else r.2.2.2 9 j) (f1 := fun j => if j < 28 then r.2.2.2 1 j else r.2.2.2 10 j) (f2 := fun j => if j < 28 then r.2.2.2 2 j else r.2.2.2 11 j) (f5 := fun j => if j < 30 then r.2.2.2 5 j else r.2.2.2 14 j) (f6 := fun j => if j < 30 then r.2.2.2 6 j else r.2.2.2 15 j) (PD.copy0 k.epd k.m12) (RS.copy (g := r.2.2.2 13) k.er1 k.i1.2)
  have i7 := k.i7
  refine tt_hs120 hN x1 N _ _ _ kf (PD.copy k.epd) (by omega) (Or.inr (Or.inr ?_))
  show 601 - (r.2.1 7).toInt < _
  omega
set_option maxHeartbeats 4000000 in
theorem tt_fX12_isBook {N : Nat} (hN : 3000000000 ≤ N) (I0 : Nat → Int32) (L0 : Int64) (M0 : Nat → Nat → Int32) (x1 : Int32) (k_I0 : KX12 I0 M0) : wq (fX12_isBook N I0 L0 M0 x1) (fun r => (r.1.toInt = 0 ∨ (r.1.toInt = 1 ∧ 0 ≤ x1.toInt ∧ x1.toInt ≤ 5)) ∧ (r.2.1 1).toInt = (I0 1).toInt ∧ (0 ≤ r.1.toInt ∧ r.1.toInt ≤ 1) ∧ KX12 r.2.1 r.2.2.2 ∧ True) := by
  unfold fX12_isBook
  have b_30355 := i32b x1
  have l_0 := il_0
  refine wq_lt (fun hc_30356 => ?_) (fun hc_30357 => ?_)
  · have l_1 := il_1
    refine wq_b (tt_fX12_right hN I0 L0 M0 (0 : Int32) (1 : Int32) ⟨by omega, by omega⟩ k_I0) (fun r1_q30358 h_r1_q30358 => ?_)
    obtain ⟨h_r1_q30358_0, h_r1_q30358_1, h_r1_q30358_2, h_r1_q30358_3, -⟩ := h_r1_q30358
    have t_30359 := KX12.i1 h_r1_q30358_3
    have t_30360 := KX12.i1 k_I0
    refine wq_bz (by omega) ?_
    exact wq_s ⟨(show (r1_q30358.1.toInt = 0 ∨ (r1_q30358.1.toInt = 1 ∧ 0 ≤ x1.toInt ∧ x1.toInt ≤ 5)) from by omega), (show (r1_q30358.2.1 1).toInt = (I0 1).toInt from by omega), (show 0 ≤ r1_q30358.1.toInt ∧ r1_q30358.1.toInt ≤ 1 from ⟨by omega, by omega⟩), h_r1_q30358_3, trivial⟩
  · have l_6 := il_6
    refine wq_le (fun hc_30361 => ?_) (fun hc_30362 => ?_)
    · have l_1 := il_1
      refine wq_b (tt_fX12_right hN I0 L0 M0 (0 : Int32) (1 : Int32) ⟨by omega, by omega⟩ k_I0) (fun r2_q30363 h_r2_q30363 => ?_)
      obtain ⟨h_r2_q30363_0, h_r2_q30363_1, h_r2_q30363_2, h_r2_q30363_3, -⟩ := h_r2_q30363
      have t_30364 := KX12.i1 h_r2_q30363_3
      have t_30365 := KX12.i1 k_I0
      refine wq_bz (by omega) ?_
      exact wq_s ⟨(show (r2_q30363.1.toInt = 0 ∨ (r2_q30363.1.toInt = 1 ∧ 0 ≤ x1.toInt ∧ x1.toInt ≤ 5)) from by omega), (show (r2_q30363.2.1 1).toInt = (I0 1).toInt from by omega), (show 0 ≤ r2_q30363.1.toInt ∧ r2_q30363.1.toInt ≤ 1 from ⟨by omega, by omega⟩), h_r2_q30363_3, trivial⟩
    · have l_1 := il_1
      refine wq_b (tt_fX12_right hN I0 L0 M0 (1 : Int32) (1 : Int32) ⟨by omega, by omega⟩ k_I0) (fun r3_q30366 h_r3_q30366 => ?_)
      obtain ⟨h_r3_q30366_0, h_r3_q30366_1, h_r3_q30366_2, h_r3_q30366_3, -⟩ := h_r3_q30366
      have t_30367 := KX12.i1 h_r3_q30366_3
      have t_30368 := KX12.i1 k_I0
      refine wq_bz (by omega) ?_
      exact wq_s ⟨(show (r3_q30366.1.toInt = 0 ∨ (r3_q30366.1.toInt = 1 ∧ 0 ≤ x1.toInt ∧ x1.toInt ≤ 5)) from by omega), (show (r3_q30366.2.1 1).toInt = (I0 1).toInt from by omega), (show 0 ≤ r3_q30366.1.toInt ∧ r3_q30366.1.toInt ≤ 1 from ⟨by omega, by omega⟩), h_r3_q30366_3, trivial⟩
set_option maxHeartbeats 4000000 in
theorem tt_fX12_isWheel {N : Nat} (hN : 3000000000 ≤ N) (I0 : Nat → Int32) (L0 : Int64) (M0 : Nat → Nat → Int32) (x1 : Int32) (x2 : Int32) (k_I0 : KX12 I0 M0) : wq (fX12_isWheel N I0 L0 M0 x1 x2) (fun r => (r.1.toInt = 0 ∨ (r.1.toInt = 1 ∧ 0 ≤ x1.toInt ∧ x1.toInt ≤ 5 ∧ 0 ≤ x2.toInt ∧ x2.toInt ≤ 19)) ∧ (r.2.1 1).toInt = (I0 1).toInt ∧ (0 ≤ r.1.toInt ∧ r.1.toInt ≤ 1) ∧ KX12 r.2.1 r.2.2.2 ∧ True) := by
  unfold fX12_isWheel
  refine wq_v (fun I0_1_q30555 h_I0_1_q30555 => ?_)
  have k_I0_1_q30555 : KX12 I0_1_q30555 M0 := by rw [h_I0_1_q30555]; exact KX12.si0 k_I0
  have b_30556 := i32b x1
  have l_0 := il_0
  refine wq_lt (fun hc_30557 => ?_) (fun hc_30558 => ?_)
  · have l_1 := il_1
    refine wq_b (tt_fX12_right hN I0_1_q30555 L0 M0 (0 : Int32) (1 : Int32) ⟨by omega, by omega⟩ k_I0_1_q30555) (fun r2_q30559 h_r2_q30559 => ?_)
    obtain ⟨h_r2_q30559_0, h_r2_q30559_1, h_r2_q30559_2, h_r2_q30559_3, -⟩ := h_r2_q30559
    have t_30560 := KX12.i1 h_r2_q30559_3
    have t_30561 := KX12.i1 k_I0
    have t_30562 : (I0_1_q30555 1).toInt = (I0 1).toInt := by rw [h_I0_1_q30555]; rfl
    refine wq_bz (by omega) ?_
    have b_30563 := i32b x2
    exact wq_s ⟨(show (r2_q30559.1.toInt = 0 ∨ (r2_q30559.1.toInt = 1 ∧ 0 ≤ x1.toInt ∧ x1.toInt ≤ 5 ∧ 0 ≤ x2.toInt ∧ x2.toInt ≤ 19)) from by omega), (show (r2_q30559.2.1 1).toInt = (I0 1).toInt from by omega), (show 0 ≤ r2_q30559.1.toInt ∧ r2_q30559.1.toInt ≤ 1 from ⟨by omega, by omega⟩), h_r2_q30559_3, trivial⟩
  · have l_6 := il_6
    refine wq_le (fun hc_30564 => ?_) (fun hc_30565 => ?_)
    · have l_1 := il_1
      refine wq_b (tt_fX12_right hN I0_1_q30555 L0 M0 (0 : Int32) (1 : Int32) ⟨by omega, by omega⟩ k_I0_1_q30555) (fun r3_q30566 h_r3_q30566 => ?_)
      obtain ⟨h_r3_q30566_0, h_r3_q30566_1, h_r3_q30566_2, h_r3_q30566_3, -⟩ := h_r3_q30566
      have t_30567 := KX12.i1 h_r3_q30566_3
      have t_30568 := KX12.i1 k_I0
      have t_30569 : (I0_1_q30555 1).toInt = (I0 1).toInt := by rw [h_I0_1_q30555]; rfl
      refine wq_bz (by omega) ?_
      have b_30570 := i32b x2
      exact wq_s ⟨(show (r3_q30566.1.toInt = 0 ∨ (r3_q30566.1.toInt = 1 ∧ 0 ≤ x1.toInt ∧ x1.toInt ≤ 5 ∧ 0 ≤ x2.toInt ∧ x2.toInt ≤ 19)) from by omega), (show (r3_q30566.2.1 1).toInt = (I0 1).toInt from by omega), (show 0 ≤ r3_q30566.1.toInt ∧ r3_q30566.1.toInt ≤ 1 from ⟨by omega, by omega⟩), h_r3_q30566_3, trivial⟩
    · have b_30571 := i32b x2
      refine wq_lt (fun hc_30572 => ?_) (fun hc_30573 => ?_)
      · have l_1 := il_1
        refine wq_b (tt_fX12_right hN I0_1_q30555 L0 M0 (0 : Int32) (1 : Int32) ⟨by omega, by omega⟩ k_I0_1_q30555) (fun r4_q30574 h_r4_q30574 => ?_)
        obtain ⟨h_r4_q30574_0, h_r4_q30574_1, h_r4_q30574_2, h_r4_q30574_3, -⟩ := h_r4_q30574
        have t_30575 := KX12.i1 h_r4_q30574_3
        have t_30576 := KX12.i1 k_I0
        have t_30577 : (I0_1_q30555 1).toInt = (I0 1).toInt := by rw [h_I0_1_q30555]; rfl
        refine wq_bz (by omega) ?_
        exact wq_s ⟨(show (r4_q30574.1.toInt = 0 ∨ (r4_q30574.1.toInt = 1 ∧ 0 ≤ x1.toInt ∧ x1.toInt ≤ 5 ∧ 0 ≤ x2.toInt ∧ x2.toInt ≤ 19)) from by omega), (show (r4_q30574.2.1 1).toInt = (I0 1).toInt from by omega), (show 0 ≤ r4_q30574.1.toInt ∧ r4_q30574.1.toInt ≤ 1 from ⟨by omega, by omega⟩), h_r4_q30574_3, trivial⟩
      · have l_20 := il_20
        refine wq_le (fun hc_30578 => ?_) (fun hc_30579 => ?_)
        · have l_1 := il_1
          refine wq_b (tt_fX12_right hN I0_1_q30555 L0 M0 (0 : Int32) (1 : Int32) ⟨by omega, by omega⟩ k_I0_1_q30555) (fun r5_q30580 h_r5_q30580 => ?_)
          obtain ⟨h_r5_q30580_0, h_r5_q30580_1, h_r5_q30580_2, h_r5_q30580_3, -⟩ := h_r5_q30580
          have t_30581 := KX12.i1 h_r5_q30580_3
          have t_30582 := KX12.i1 k_I0
          have t_30583 : (I0_1_q30555 1).toInt = (I0 1).toInt := by rw [h_I0_1_q30555]; rfl
          refine wq_bz (by omega) ?_
          exact wq_s ⟨(show (r5_q30580.1.toInt = 0 ∨ (r5_q30580.1.toInt = 1 ∧ 0 ≤ x1.toInt ∧ x1.toInt ≤ 5 ∧ 0 ≤ x2.toInt ∧ x2.toInt ≤ 19)) from by omega), (show (r5_q30580.2.1 1).toInt = (I0 1).toInt from by omega), (show 0 ≤ r5_q30580.1.toInt ∧ r5_q30580.1.toInt ≤ 1 from ⟨by omega, by omega⟩), h_r5_q30580_3, trivial⟩
        · have l_1 := il_1
          refine wq_b (tt_fX12_right hN I0_1_q30555 L0 M0 (1 : Int32) (1 : Int32) ⟨by omega, by omega⟩ k_I0_1_q30555) (fun r6_q30584 h_r6_q30584 => ?_)
          obtain ⟨h_r6_q30584_0, h_r6_q30584_1, h_r6_q30584_2, h_r6_q30584_3, -⟩ := h_r6_q30584
          have t_30585 := KX12.i1 h_r6_q30584_3
          have t_30586 := KX12.i1 k_I0
          have t_30587 : (I0_1_q30555 1).toInt = (I0 1).toInt := by rw [h_I0_1_q30555]; rfl
          refine wq_bz (by omega) ?_
          exact wq_s ⟨(show (r6_q30584.1.toInt = 0 ∨ (r6_q30584.1.toInt = 1 ∧ 0 ≤ x1.toInt ∧ x1.toInt ≤ 5 ∧ 0 ≤ x2.toInt ∧ x2.toInt ≤ 19)) from by omega), (show (r6_q30584.2.1 1).toInt = (I0 1).toInt from by omega), (show 0 ≤ r6_q30584.1.toInt ∧ r6_q30584.1.toInt ≤ 1 from ⟨by omega, by omega⟩), h_r6_q30584_3, trivial⟩
/-- an ENTRY is read: as RO, and behind it a fault, the text's end, or a byte on -/
def EP (I : Nat → Int32) (r : (Nat → Int32) × Int64 × (Nat → Nat → Int32)) : Prop := RO I r ∧ ((r.1 4).toInt ≠ 0 ∨ (r.1 8).toInt = 0 ∨ (I 7).toInt < (r.1 7).toInt)
theorem EP.go {I J : Nat → Int32} {q : (Nat → Int32) × Int64 × (Nat → Nat → Int32)} (a : (I 4).toInt = 0 ∨ (J 4).toInt ≠ 0) (b : (I 7).toInt ≤ (J 7).toInt) (g : EP J q) : EP I q := ⟨RO.go a b g.1, by have c := g.2; omega⟩
theorem tt_re193 {N : Nat} (hN : 3000000000 ≤ N) (I : Nat → Int32) (L : Int64) (M : Nat → Nat → Int32) (k : KX12 I M) : wq (fX12_readsEntry_J193 N I L M) (EP I) := by
  unfold fX12_readsEntry_J193
  have h : ∀ z : Int32, wq ((fX12_need N I L M z).bind fun r2 => some (r2.1, r2.2.1, r2.2.2)) (EP I) := by
    intro z
    refine wq_b (tt_need hN I L M z k) (fun r h => ?_)
    refine wq_s ⟨RO.of h.1, ?_⟩
    rcases h.2 with q | q
    · exact Or.inl q
    · exact Or.inr q.2
  exact wq_i (fun _ => h 1) (fun _ => h 0)
theorem tt_re168 {N : Nat} (hN : 3000000000 ≤ N) (I : Nat → Int32) (L : Int64) (M : Nat → Nat → Int32) (y2 y3 z0 z1 : Int32) (k : KX12 I M) (h : (I 4).toInt ≠ 0 ∨ ((0 ≤ y2.toInt ∧ y2.toInt ≤ 21) ∧ (0 ≤ y3.toInt ∧ y3.toInt ≤ 12) ∧ (y2.toInt = 21 ∨ y3.toInt ≤ 11))) (hz1 : z1.toInt = 0) (hz0 : z0.toInt ≤ 29) : wq (fX12_readsEntry_J168 N I L M y2 y3 z0 z1) (EP I) := by
  unfold fX12_readsEntry_J168
  have l_0 := il_0
  have l_30 := il_30
  refine wq_b (tt_number hN I L M z1 z0 k) (fun r3 h3 => ?_)
  obtain ⟨n3, g3⟩ := h3
  refine wq_v (fun v4 e4 => ?_)
  have t4 := congrArg Int32.toInt e4
  rw [n3.1]
  refine wq_b (tt_good N r3.2.1 r3.2.2.1 M) (fun r5 h5 => ?_)
  refine wq_eq (fun hc => ?_) (fun hc => ?_)
  · exact wq_w (tt_re193 hN r3.2.1 r3.2.2.1 M n3.2.2.1) (fun q g => EP.go n3.2.2.2.1 n3.2.2.2.2 g)
  · have i4 : (I 4).toInt = 0 := by have := n3.2.2.2.1; omega
    obtain ⟨w1, w2, w3⟩ := h.resolve_left (fun q => q i4)
    have p := g3.resolve_left (by omega)
    refine wq_in (n := 22) ⟨by omega, by omega⟩ (wq_v (fun M6 e6 => ?_))
    have ta := ia_mul (30 : Int32) 30 il_30 y3 (by omega) (by omega)
    have tb := ia_add ((30 : Int32) * y3) v4 (by omega) (by omega)
    have tn := tn_of y2 (by omega)
    subst e6
    have k6 : KX12 r3.2.1 (wb_um M 16 y2.toNatClampNeg ((30 : Int32) * y3 + v4)) := KX12.sm16 n3.2.2.1 ⟨by omega, by omega⟩ (DN.um n3.2.2.1.edn (fun q => by omega))
    exact wq_w (tt_re193 hN r3.2.1 r3.2.2.1 _ k6) (fun q g => EP.go n3.2.2.2.1 n3.2.2.2.2 g)
theorem tt_re144 {N : Nat} (hN : 3000000000 ≤ N) (I : Nat → Int32) (L : Int64) (M : Nat → Nat → Int32) (y1 y2 z0 z1 : Int32) (k : KX12 I M) (h : (I 4).toInt ≠ 0 ∨ ((0 ≤ y2.toInt ∧ y2.toInt ≤ 21) ∧ z0.toInt ≤ 12 ∧ (y2.toInt = 21 ∨ z0.toInt ≤ 11))) (hz1 : z1.toInt = 0) : wq (fX12_readsEntry_J144 N I L M y1 y2 z0 z1) (EP I) := by
  unfold fX12_readsEntry_J144 fX12_readsEntry_J166
  refine wq_b (tt_number hN I L M z1 z0 k) (fun r7 h7 => ?_)
  obtain ⟨n7, g7⟩ := h7
  refine wq_v (fun v8 e8 => ?_)
  have t8 := congrArg Int32.toInt e8
  rw [n7.1]
  have hh : ∀ w : Int32, w.toInt ≤ 29 → wq (fX12_readsEntry_J168 N r7.2.1 r7.2.2.1 M y2 v8 w 0) (EP I) := by
    intro w hw
    refine wq_w (tt_re168 hN r7.2.1 r7.2.2.1 M y2 v8 w 0 n7.2.2.1 ?_ il_0 hw) (fun q g => EP.go n7.2.2.2.1 n7.2.2.2.2 g)
    have a := n7.2.2.2.1
    rcases g7 with q | q
    · exact Or.inl q
    · by_cases c4 : (r7.2.1 4).toInt = 0
      · right
        have := h.resolve_left (by omega)
        omega
      · exact Or.inl c4
  refine wq_i (fun _ => wq_i (fun _ => hh 4 (by decide)) (fun _ => hh 29 (by decide))) (fun _ => hh 29 (by decide))
theorem tt_re129 {N : Nat} (hN : 3000000000 ≤ N) (I : Nat → Int32) (L : Int64) (M : Nat → Nat → Int32) (y1 y2 : Int32) (k : KX12 I M) (h : (I 4).toInt ≠ 0 ∨ ((0 ≤ y2.toInt ∧ y2.toInt ≤ 21) ∧ (y1.toInt ≠ 10 ∨ y2.toInt = 21))) : wq (fX12_readsEntry_J129 N I L M y1 y2) (EP I) := by
  unfold fX12_readsEntry_J129
  have l_10 := il_10
  have l_11 := il_11
  have l_12 := il_12
  refine wq_eq (fun hc => ?_) (fun hc => ?_)
  · exact tt_re144 hN I L M y1 y2 12 0 k (by omega) il_0
  · exact tt_re144 hN I L M y1 y2 11 0 k (by omega) il_0

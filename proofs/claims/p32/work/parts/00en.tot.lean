theorem tt_rs32 {N : Nat} (hN : 3000000000 ≤ N) (I : Nat → Int32) (L : Int64) (M : Nat → Nat → Int32) (y1 y2 z : Int32) (k : KX12 I M) (h : (I 4).toInt ≠ 0 ∨ z.toInt = 0 ∨ ((0 ≤ y1.toInt ∧ y1.toInt ≤ 3) ∧ (0 ≤ y2.toInt ∧ y2.toInt ≤ 6))) : wq (fX12_readsSet_J32 N I L M y1 y2 z) (RP I (M 12)) := by
  unfold fX12_readsSet_J32
  have l_0 := il_0
  have l_1 := il_1
  have l_2 := il_2
  have l_m := il_1000000
  refine wq_b (tt_need hN I L M z k) (fun r6 h6 => ?_)
  obtain ⟨n6, g6⟩ := h6
  rw [n6.1]
  refine wq_b (tt_named hN r6.1 r6.2.1 M 12 0 21599 n6.2.2.1) (fun r7 h7 => ?_)
  obtain ⟨n7, -⟩ := h7
  refine wq_v (fun v8 e8 => ?_)
  rw [n7.1]
  refine wq_b (tt_named hN r7.2.1 r7.2.2.1 M 13 0 2000000 n7.2.2.1) (fun r9 h9 => ?_)
  obtain ⟨n9, -⟩ := h9
  refine wq_v (fun v10 e10 => ?_)
  rw [n9.1]
  have na : NP I M r9.2 := NP.tr (NP.tr n6 n7) n9
  have key : ∀ (J : Nat → Int32) (L2 : Int64) (p5 p6 : Int32), NP I M (J, L2, M) → ((J 4).toInt ≠ 0 ∨ (1 ≤ p6.toInt ∧ p6.toInt ≤ 1000000)) → (∀ q : (J 4).toInt = 0, (r6.1 4).toInt = 0) → wq (fX12_readsSet_J102 N J L2 M y1 y2 v8 v10 p5 p6) (RP I (M 12)) := by
    intro J L2 p5 p6 nJ h6' hs
    refine wq_w (tt_rs102 N J L2 M y1 y2 v8 v10 p5 p6 nJ.2.2.1 ?_) (fun q g => RP.tr nJ g)
    by_cases q : (J 4).toInt = 0
    · right
      have q6 := hs q
      have a := n6.2.2.2.1
      have b := h6'.resolve_left (fun w => w q)
      have g := g6.resolve_left (fun w => w q6)
      rcases h with w | w | w
      · exact absurd w (by omega)
      · exact absurd w g.1
      · exact ⟨w.1, w.2, b⟩
    · exact Or.inl q
  have s9 : (r9.2.1 4).toInt = 0 → (r6.1 4).toInt = 0 := by
    have a := n7.2.2.2.1
    have b := n9.2.2.2.1
    omega
  have n9' : NP I M (r9.2.1, r9.2.2.1, M) := ⟨rfl, na.2.1, na.2.2.1, na.2.2.2.1, na.2.2.2.2⟩
  refine wq_b (tt_good N r9.2.1 r9.2.2.1 M) (fun r11 h11 => ?_)
  refine wq_eq (fun hc => ?_) (fun hc => ?_)
  · exact key r9.2.1 r9.2.2.1 0 1 n9' (Or.inr ⟨by decide, by decide⟩) s9
  · refine wq_b (tt_fX12_knownWord hN r9.2.1 r9.2.2.1 M na.2.2.1) (fun r12 h12 => ?_)
    refine wq_i (fun _ => ?_) (fun _ => ?_)
    · refine wq_b (tt_named hN r9.2.1 r9.2.2.1 M 14 0 10800 na.2.2.1) (fun r13 h13 => ?_)
      obtain ⟨n13, -⟩ := h13
      refine wq_v (fun v14 e14 => ?_)
      rw [n13.1]
      refine wq_b (tt_named hN r13.2.1 r13.2.2.1 M 15 2 1000000 n13.2.2.1) (fun r15 h15 => ?_)
      obtain ⟨n15, g15⟩ := h15
      refine wq_v (fun v16 e16 => ?_)
      rw [n15.1]
      have nb : NP I M r15.2 := NP.tr (NP.tr na n13) n15
      refine key r15.2.1 r15.2.2.1 v14 v16 ⟨rfl, nb.2.1, nb.2.2.1, nb.2.2.2.1, nb.2.2.2.2⟩ ?_ ?_
      · rw [e16]; omega
      · have a := n13.2.2.2.1
        have b := n15.2.2.2.1
        omega
    · exact key r9.2.1 r9.2.2.1 0 1 n9' (Or.inr ⟨by decide, by decide⟩) s9
theorem tt_rs {N : Nat} (hN : 3000000000 ≤ N) (I : Nat → Int32) (L : Int64) (M : Nat → Nat → Int32) (k : KX12 I M) : wq (fX12_readsSet N I L M) (RP I (M 12)) := by
  unfold fX12_readsSet fX12_readsSet_J31
  have l_0 := il_0
  have l_3 := il_3
  have l_7 := il_7
  refine wq_b (tt_steps hN I L M k) (fun r17 h17 => ?_)
  have n17 := NP.of h17
  rw [n17.1]
  refine wq_b (tt_number hN r17.1 r17.2.1 M 0 3 n17.2.2.1) (fun r18 h18 => ?_)
  obtain ⟨n18, g18⟩ := h18
  refine wq_v (fun v19 e19 => ?_)
  rw [n18.1]
  have na : NP I M r18.2 := NP.tr n17 n18
  refine wq_b (tt_fX12_knownWord hN r18.2.1 r18.2.2.1 M na.2.2.1) (fun r20 h20 => ?_)
  refine wq_lt (fun hc => ?_) (fun hc => ?_)
  · exact wq_w (tt_rs32 hN r18.2.1 r18.2.2.1 M v19 r20 0 na.2.2.1 (Or.inr (Or.inl il_0))) (fun q g => RP.tr na g)
  · refine wq_le (fun hc2 => ?_) (fun hc2 => ?_)
    · exact wq_w (tt_rs32 hN r18.2.1 r18.2.2.1 M v19 r20 0 na.2.2.1 (Or.inr (Or.inl il_0))) (fun q g => RP.tr na g)
    · refine wq_w (tt_rs32 hN r18.2.1 r18.2.2.1 M v19 r20 1 na.2.2.1 ?_) (fun q g => RP.tr na g)
      rw [e19]
      omega
/-- the row of RISING numbers under way -/
def RW (M : Nat → Nat → Int32) (c z : Nat) (s : Int32) : Prop := (∀ w : Nat, w < z → 1 ≤ (M 13 (12 * c + w)).toInt ∧ (M 13 (12 * c + w)).toInt ≤ 3600) ∧ s.toInt = sm (M 13) (12 * c) z ∧ (z = 12 → s.toInt = 3600)
theorem sm_up (f : Nat → Int32) (a i : Nat) (v : Int32) : ∀ n : Nat, (∀ w : Nat, w < n → a + w ≠ i) → sm (upd f i v) a n = sm f a n := by
  intro n
  induction n with
  | zero => intro _; rfl
  | succ n ih =>
    intro h
    show sm (upd f i v) a n + (upd f i v (a + n)).toInt = sm f a n + (f (a + n)).toInt
    rw [ih (fun w hw => h w (by omega))]
    have e : upd f i v (a + n) = f (a + n) := by unfold upd; rw [if_neg (h n (by omega))]
    rw [e]
theorem sm_le (f : Nat → Int32) (a : Nat) : ∀ n : Nat, (∀ w : Nat, w < n → 1 ≤ (f (a + w)).toInt ∧ (f (a + w)).toInt ≤ 3600) → 0 ≤ sm f a n ∧ sm f a n ≤ 3600 * n := by
  intro n
  induction n with
  | zero => intro _; simp [sm]
  | succ n ih =>
    intro h
    have a1 := ih (fun w hw => h w (by omega))
    have a2 := h n (by omega)
    show 0 ≤ sm f a n + (f (a + n)).toInt ∧ sm f a n + (f (a + n)).toInt ≤ _
    omega
theorem RS.um {n : Int32} {f : Nat → Int32} (h : RS n f) {i : Nat} {v : Int32} (hi : ∀ c w : Nat, (c : Int) < n.toInt → w < 12 → 12 * c + w ≠ i) : RS n (upd f i v) := by
  intro c hc
  obtain ⟨a, b⟩ := h c hc
  refine ⟨fun z hz => ?_, ?_⟩
  · have e : upd f i v (12 * c + z) = f (12 * c + z) := by unfold upd; rw [if_neg (hi c z hc hz)]
    rw [e]; exact a z hz
  · rw [sm_up f (12 * c) i v 12 (fun w hw => hi c w hc hw)]; exact b
theorem tt_rc155 (N : Nat) (I : Nat → Int32) (L : Int64) (M : Nat → Nat → Int32) (c : Nat) (hc : c ≤ 6) (k : KX12 I M) (h13 : I 13 = nI c) (h : (I 4).toInt ≠ 0 ∨ RV (M 13) c) : wq (fX12_readsClimate_J155 N I L M) (RP I (M 12)) := by
  unfold fX12_readsClimate_J155
  have l_0 := il_0
  have l_1 := il_1
  refine wq_b (tt_good N I L M) (fun r1 h1 => ?_)
  refine wq_eq (fun hq => ?_) (fun hq => ?_)
  · exact wq_s (RP.of (M := M) (NP.rf k))
  · have k13 := k.i13
    have e13 : (I 13).toInt = c := by rw [h13, nI_toInt (by omega)]
    have ta := ia_add (I 13) (1 : Int32) (by omega) (by omega)
    refine wq_v (fun J eJ => ?_)
    subst eJ
    refine wq_s ⟨KX12.si13 k ⟨by omega, by omega⟩ (fun d hd => ?_), by show _ ∨ (I 4).toInt ≠ 0; omega, Int.le_refl _, fun h => h⟩
    rcases Nat.lt_or_ge d c with q | q
    · exact k.er2 d (by omega)
    · have : d = c := by omega
      subst this
      exact h.resolve_left (by omega)
theorem tt_rc111 {N : Nat} (hN : 3000000000 ≤ N) (g : (Nat → Int32) → Int64 → (Nat → Nat → Int32) → Int32 → Int32 → Option ((Nat → Int32) × Int64 × (Nat → Nat → Int32))) (I : Nat → Int32) (L : Int64) (M : Nat → Nat → Int32) (c z : Nat) (s : Int32) (hc : c ≤ 6) (hz : z < 12) (k : KX12 I M) (h13 : I 13 = nI c) (h : (I 4).toInt ≠ 0 ∨ (RW M c z s ∧ (z = 11 → (I 8).toInt = 2 → (I 10).toInt ≤ 7 → (I 11).toInt = 3600 - s.toInt)))
    (hg : ∀ (J : Nat → Int32) (L2 : Int64) (M2 : Nat → Nat → Int32) (s2 : Int32), KX12 J M2 → J 13 = nI c → ((J 4).toInt ≠ 0 ∨ RW M2 c (z + 1) s2) → ((I 4).toInt = 0 ∨ (J 4).toInt ≠ 0) → (I 7).toInt ≤ (J 7).toInt → M2 12 = M 12 → wq (g J L2 M2 s2 (nI (z + 1))) (RP I (M 12))) : wq (fX12_readsClimate_J111 N g I L M s (nI z)) (RP I (M 12)) := by
  unfold fX12_readsClimate_J111
  have l_0 := il_0
  have l_1 := il_1
  have l_3600 := il_3600
  refine wq_b (tt_number hN I L M 1 3600 k) (fun r6 h6 => ?_)
  obtain ⟨n6, g6⟩ := h6
  refine wq_v (fun v7 e7 => ?_)
  rw [n6.1]
  have q13 : r6.2.1 13 = nI c := (n6.2.1 13 (by decide) (by decide) (by decide) (by decide) (by decide) (by decide) (by decide)).trans h13
  refine wq_b (tt_good N r6.2.1 r6.2.2.1 M) (fun r8 h8 => ?_)
  refine wq_eq (fun hq => ?_) (fun hq => ?_)
  · refine wq_v (fun v9 e9 => wq_v (fun v10 e10 => ?_))
    rw [e10, nI_1]
    exact hg _ _ _ _ n6.2.2.1 q13 (Or.inl (by omega)) n6.2.2.2.1 n6.2.2.2.2 rfl
  · have e12 : (12 : Int32) * r6.2.1 13 + nI z = nI (12 * c + z) := by rw [q13, show (12 : Int32) = nI 12 from rfl, pk_mul, nI_add]
    rw [e12]
    have hin : ¬ (nI (12 * c + z) < 0 ∨ 84 ≤ (nI (12 * c + z)).toNatClampNeg) := wp_in (by omega) (by decide)
    rw [if_neg hin, nI_clamp (by omega)]
    refine wq_v (fun M11 e11 => wq_v (fun v12 ev12 => wq_v (fun v13 ev13 => ?_)))
    rw [ev13, nI_1]
    have i4 : (I 4).toInt = 0 := by have := n6.2.2.2.1; omega
    obtain ⟨⟨w1, w2, w3⟩, w4⟩ := h.resolve_left (fun q => q i4)
    obtain ⟨p1, p2, p3, p4, p5⟩ := g6.resolve_left (by omega)
    have hle := sm_le (M 13) (12 * c) z w1
    rw [e7] at ev12 e11
    have ta := ia_add s r6.1 (by omega) (by omega)
    have tv := congrArg Int32.toInt ev12
    have e13 : (r6.2.1 13).toInt = c := by rw [q13, nI_toInt (by omega)]
    refine hg _ _ M11 v12 ?_ q13 (Or.inr ⟨?_, ?_, ?_⟩) n6.2.2.2.1 n6.2.2.2.2 (by rw [e11]; rfl)
    · rw [e11]
      refine KX12.sm13 n6.2.2.1 (RS.um n6.2.2.1.er2 (fun d w hd hw => ?_))
      omega
    · intro w hw
      rw [e11]
      show 1 ≤ (upd (M 13) (12 * c + z) r6.1 (12 * c + w)).toInt ∧ (upd (M 13) (12 * c + z) r6.1 (12 * c + w)).toInt ≤ 3600
      unfold upd
      by_cases q : 12 * c + w = 12 * c + z
      · rw [if_pos q]; omega
      · rw [if_neg q]; exact w1 w (by omega)
    · rw [e11]
      show _ = sm (upd (M 13) (12 * c + z) r6.1) (12 * c) z + (upd (M 13) (12 * c + z) r6.1 (12 * c + z)).toInt
      rw [sm_up _ _ _ _ z (fun w hw => by omega)]
      have e : upd (M 13) (12 * c + z) r6.1 (12 * c + z) = r6.1 := by unfold upd; rw [if_pos rfl]
      rw [e]; omega
    · intro q
      have := w4 (by omega) p4 p5
      rw [← p1] at this
      omega
theorem tt_rc43 {N : Nat} (hN : 3000000000 ≤ N) (c : Nat) (hc : c ≤ 6) : ∀ (fu : Nat) (I : Nat → Int32) (L : Int64) (M : Nat → Nat → Int32) (z : Nat) (s : Int32), KX12 I M → I 13 = nI c → z ≤ 12 → ((I 4).toInt ≠ 0 ∨ RW M c z s) → 12 - z < fu → wq (fX12_readsClimate_L43 N fu I L M s (nI z)) (RP I (M 12)) := by
  intro fu
  induction fu with
  | zero => intro I L M z s k h13 hz h hm; omega
  | succ fu ih =>
    intro I L M z s k h13 hz h hm
    rw [fX12_readsClimate_L43.eq_2]
    have l_0 := il_0
    have l_2 := il_2
    have l_7 := il_7
    have l_11 := il_11
    have l_12 := il_12
    have l_3600 := il_3600
    have ez : (nI z).toInt = z := nI_toInt (by omega)
    refine wq_le (fun hq => ?_) (fun hq => ?_)
    · refine tt_rc155 N I L M c hc k h13 ?_
      rcases h with q | q
      · exact Or.inl q
      · right
        have : z = 12 := by omega
        subst this
        exact ⟨q.1, by rw [← q.2.1]; exact q.2.2 rfl⟩
    · refine wq_b (tt_good N I L M) (fun r15 h15 => ?_)
      refine wq_eq (fun hr => ?_) (fun hr => ?_)
      · exact tt_rc155 N I L M c hc k h13 (Or.inl (by omega))
      · have i4 : (I 4).toInt = 0 := by omega
        have hw := h.resolve_left (fun q => q i4)
        have hle := sm_le (M 13) (12 * c) z hw.1
        have hs := hw.2.1
        have ts := ia_sub (3600 : Int32) s (by omega) (by omega)
        refine wq_v (fun v16 e16 => ?_)
        have t16 := congrArg Int32.toInt e16
        have hgo : ∀ (J0 : Nat → Int32), ((I 4).toInt = 0 ∨ (J0 4).toInt ≠ 0) → (I 7).toInt ≤ (J0 7).toInt → ∀ (J : Nat → Int32) (L2 : Int64) (M2 : Nat → Nat → Int32) (s2 : Int32), KX12 J M2 → J 13 = nI c → ((J 4).toInt ≠ 0 ∨ RW M2 c (z + 1) s2) → ((J0 4).toInt = 0 ∨ (J 4).toInt ≠ 0) → (J0 7).toInt ≤ (J 7).toInt → M2 12 = M 12 → wq (fX12_readsClimate_L43 N fu J L2 M2 s2 (nI (z + 1))) (RP J0 (M 12)) := by
          intro J0 _ _ J L2 M2 s2 kJ j13 hJ a b e12
          exact wq_w (ih J L2 M2 (z + 1) s2 kJ j13 (by omega) hJ (by omega)) (fun q g => RP.go a b (by rw [e12] at g; exact g))
        have h97 : (z = 11 → (I 8).toInt = 2 → (I 10).toInt ≤ 7 → (I 11).toInt = 3600 - s.toInt) → wq (fX12_readsClimate_J97 N (fun q0 q1 q2 q3 q4 => fX12_readsClimate_L43 N fu q0 q1 q2 q3 q4) I L M s (nI z)) (RP I (M 12)) := by
          intro hx
          unfold fX12_readsClimate_J97 fX12_readsClimate_J98
          rw [if_neg (by decide)]
          exact tt_rc111 hN _ I L M c z s hc (by omega) k h13 (Or.inr ⟨hw, hx⟩) (hgo I (by omega) (Int.le_refl _))
        refine wq_eq (fun h11 => ?_) (fun h11 => ?_)
        · refine wq_eq (fun h8 => ?_) (fun h8 => ?_)
          · refine wq_lt (fun h10 => ?_) (fun h10 => ?_)
            · exact h97 (fun _ _ q => absurd q (by omega))
            · refine wq_eq (fun hv => ?_) (fun hv => ?_)
              · exact h97 (fun _ _ _ => by omega)
              · unfold fX12_readsClimate_J98
                rw [if_pos rfl]
                refine wq_b (tt_wrong N I L M 2 (by decide) k) (fun r14 h14 => ?_)
                rw [h14.1.1]
                have q13 : r14.1 13 = nI c := (h14.1.2.1 13 (by decide) (by decide) (by decide) (by decide) (by decide) (by decide) (by decide)).trans h13
                exact wq_w (tt_rc111 hN _ r14.1 r14.2.1 M c z s hc (by omega) h14.1.2.2.1 q13 (Or.inl h14.2) (hgo r14.1 h14.1.2.2.2.1 h14.1.2.2.2.2)) (fun q g => RP.go h14.1.2.2.2.1 h14.1.2.2.2.2 g)
          · exact h97 (fun _ q => absurd q (by omega))
        · exact h97 (fun q => absurd q (by omega))
theorem tt_rc14 {N : Nat} (hN : 3000000000 ≤ N) (I : Nat → Int32) (L : Int64) (M : Nat → Nat → Int32) (k : KX12 I M) (h : (I 4).toInt ≠ 0 ∨ (I 13).toInt ≤ 6) : wq (fX12_readsClimate_J14 N I L M) (RP I (M 12)) := by
  unfold fX12_readsClimate_J14
  have l_0 := il_0
  have k13 := k.i13
  refine wq_b (tt_good N I L M) (fun r3 h3 => ?_)
  refine wq_eq (fun hq => ?_) (fun hq => ?_)
  · exact wq_s (RP.of (M := M) (NP.rf k))
  · refine wq_b (tt_steps hN I L M k) (fun r4 h4 => ?_)
    have n4 := NP.of h4
    rw [n4.1]
    refine wq_b (tt_number hN r4.1 r4.2.1 M (r4.1 13) (r4.1 13) n4.2.2.1) (fun r5 h5 => ?_)
    obtain ⟨n5, -⟩ := h5
    rw [n5.1]
    have na : NP I M r5.2 := NP.tr n4 n5
    have e13 : r5.2.1 13 = I 13 := na.2.1 13 (by decide) (by decide) (by decide) (by decide) (by decide) (by decide) (by decide)
    have ex : I 13 = nI (I 13).toInt.toNat := by
      apply Int32.toInt_inj.mp
      rw [nI_toInt (by omega)]
      omega
    refine wq_w (tt_rc43 hN (I 13).toInt.toNat (by omega) N r5.2.1 r5.2.2.1 M 0 0 na.2.2.1 (e13.trans ex) (by omega) (Or.inr ⟨fun w hw => absurd hw (by omega), il_0, fun q => absurd q (by decide)⟩) (by omega)) (fun q g => RP.go na.2.2.2.1 na.2.2.2.2 g)
theorem tt_rc {N : Nat} (hN : 3000000000 ≤ N) (I : Nat → Int32) (L : Int64) (M : Nat → Nat → Int32) (k : KX12 I M) : wq (fX12_readsClimate N I L M) (RP I (M 12)) := by
  unfold fX12_readsClimate
  have l_7 := il_7
  have k13 := k.i13
  refine wq_eq (fun hc => ?_) (fun hc => ?_)
  · refine wq_b (tt_wrong N I L M 2 (by decide) k) (fun r h => ?_)
    rw [h.1.1]
    exact wq_w (tt_rc14 hN r.1 r.2.1 M h.1.2.2.1 (Or.inl h.2)) (fun q g => RP.tr h.1 g)
  · exact tt_rc14 hN I L M k (Or.inr (by omega))
theorem tt_rh14 {N : Nat} (hN : 3000000000 ≤ N) (I : Nat → Int32) (L : Int64) (M : Nat → Nat → Int32) (k : KX12 I M) (h14 : (I 4).toInt ≠ 0 ∨ (I 14).toInt ≤ 29) : wq (fX12_readsHand_J14 N I L M) (RP I (M 12)) := by
  unfold fX12_readsHand_J14
  have l_0 := il_0
  have l_1 := il_1
  have l_29 := il_29
  refine wq_b (tt_good N I L M) (fun r1 h1 => ?_)
  refine wq_eq (fun hc => ?_) (fun hc => ?_)
  · exact wq_s (RP.of (M := M) (NP.rf k))
  · refine wq_b (tt_steps hN I L M k) (fun r2 h2 => ?_)
    have n2 := NP.of h2
    rw [n2.1]
    refine wq_b (tt_number hN r2.1 r2.2.1 M 0 29 n2.2.2.1) (fun r3 h3 => ?_)
    obtain ⟨n3, g3⟩ := h3
    refine wq_v (fun v4 e4 => ?_)
    rw [n3.1]
    refine wq_b (tt_named hN r3.2.1 r3.2.2.1 M 18 0 29 n3.2.2.1) (fun r5 h5 => ?_)
    obtain ⟨n5, g5⟩ := h5
    refine wq_v (fun v6 e6 => ?_)
    rw [n5.1]
    have na : NP I M r5.2 := NP.tr (NP.tr n2 n3) n5
    refine wq_b (tt_good N r5.2.1 r5.2.2.1 M) (fun r7 h7 => ?_)
    refine wq_eq (fun hc2 => ?_) (fun hc2 => ?_)
    · refine wq_s ?_
      have := RP.of na
      unfold RP at this
      rw [n5.1] at this
      exact this
    · have e14 : r5.2.1 14 = I 14 := na.2.1 14 (by decide) (by decide) (by decide) (by decide) (by decide) (by decide) (by decide)
      have k14 := k.i14
      rw [e14]
      refine wq_in (n := 30) ⟨by omega, by omega⟩ ?_
      refine wq_v (fun M8 e8 => ?_)
      refine wq_in (n := 30) ⟨by omega, by omega⟩ ?_
      refine wq_v (fun M9 e9 => ?_)
      have ta := ia_add (I 14) (1 : Int32) (by omega) (by omega)
      refine wq_v (fun J eJ => ?_)
      subst e8
      subst e9
      subst eJ
      exact wq_s ⟨KX12.si14 (KX12.sm14 (KX12.sm15 na.2.2.1)) ⟨by omega, by omega⟩, na.2.2.2.1, na.2.2.2.2, fun h => h⟩
theorem tt_rh {N : Nat} (hN : 3000000000 ≤ N) (I : Nat → Int32) (L : Int64) (M : Nat → Nat → Int32) (k : KX12 I M) : wq (fX12_readsHand N I L M) (RP I (M 12)) := by
  unfold fX12_readsHand
  have l_30 := il_30
  have k14 := k.i14
  refine wq_eq (fun hc => ?_) (fun hc => ?_)
  · refine wq_b (tt_wrong N I L M 2 (by decide) k) (fun r h => ?_)
    rw [h.1.1]
    exact wq_w (tt_rh14 hN r.1 r.2.1 M h.1.2.2.1 (Or.inl h.2)) (fun q g => RP.tr h.1 g)
  · exact tt_rh14 hN I L M k (Or.inr (by omega))
theorem tt_copies {N : Nat} (hN : 3000000000 ≤ N) (n1 : Nat) (f1 : Nat → Int32) (n2 : Nat) (f2 : Nat → Int32) (h : n1 ≤ n2) (hn : n2 < 2 ^ 31) : fX12_copies N n1 f1 n2 f2 = some (fun j => if j < n1 then f1 j else f2 j) := by
  have hq := wp_loopS (F := fun fu st i => fX12_copies_L2 N n1 f1 n2 fu st i) n1 (fun k j => if j < k then f1 j else f2 j) (fun j => if j < n1 then f1 j else f2 j)
    (fun fu _ => by
      show fX12_copies_L2 N n1 f1 n2 (fu + 1) _ (nI n1) = _
      rw [fX12_copies_L2.eq_2, if_pos (show Int32.ofNat n1 ≤ nI n1 from nI_le (Nat.le_refl n1) (by omega))])
    (fun fu k hk => by
      show fX12_copies_L2 N n1 f1 n2 (fu + 1) _ (nI k) = _
      rw [fX12_copies_L2.eq_2, if_neg (show ¬ Int32.ofNat n1 ≤ nI k from nI_ge hk (by omega)), if_neg (wp_in hk (by omega)), if_neg (wp_in (n := n2) (by omega) (by omega)), Option.bind_some, Option.bind_some, nI_clamp (by omega), nI_1]
      congr 1
      funext j
      unfold upd
      by_cases h1 : j = k
      · subst h1; simp
      · by_cases h2 : j < k
        · simp [h1, h2, Nat.lt_succ_of_lt h2]
        · have h3 : ¬ j < k + 1 := by omega
          simp [h1, h2, h3])
    N 0 (Nat.zero_le _) (by omega)
  have e : (fun j => if j < 0 then f1 j else f2 j) = f2 := by funext j; simp
  rw [e] at hq
  exact hq
theorem sm_cg (f g : Nat → Int32) (a : Nat) : ∀ n : Nat, (∀ w : Nat, w < n → f (a + w) = g (a + w)) → sm f a n = sm g a n := by
  intro n
  induction n with
  | zero => intro _; rfl
  | succ n ih =>
    intro h
    show sm f a n + (f (a + n)).toInt = sm g a n + (g (a + n)).toInt
    rw [ih (fun w hw => h w (by omega)), h n (by omega)]
theorem RS.copy {n : Int32} {f g : Nat → Int32} (h : RS n f) (hn : n.toInt ≤ 7) : RS n (fun j => if j < 84 then f j else g j) := by
  intro c hc
  have e : ∀ w : Nat, w < 12 → (fun j => if j < 84 then f j else g j) (12 * c + w) = f (12 * c + w) := fun w hw => if_pos (by omega)
  obtain ⟨h1, h2⟩ := h c hc
  refine ⟨fun z hz => ?_, ?_⟩
  · rw [e z hz]; exact h1 z hz
  · rw [sm_cg _ f (12 * c) 12 e]; exact h2
theorem PD.copy {f g : Nat → Int32} (h : PD f) : PD (fun j => if j < 28 then f j else g j) := by
  intro j hj
  show 1 ≤ (if j < 28 then f j else g j).toInt ∧ (if j < 28 then f j else g j).toInt ≤ 1000000
  rw [if_pos hj]; exact h j hj
theorem PD.copy0 {f g : Nat → Int32} (h : PD f) (hg : ∀ j : Nat, 0 ≤ (g j).toInt ∧ (g j).toInt ≤ 1000000) : ∀ j : Nat, 0 ≤ ((fun j => if j < 28 then f j else g j) j).toInt ∧ ((fun j => if j < 28 then f j else g j) j).toInt ≤ 1000000 := by
  intro j
  by_cases q : j < 28
  · have := PD.copy (g := g) h j q; omega
  · show 0 ≤ (if j < 28 then f j else g j).toInt ∧ (if j < 28 then f j else g j).toInt ≤ 1000000
    rw [if_neg q]; exact hg j
theorem KX12.back {I : Nat → Int32} {M : Nat → Nat → Int32} (k : KX12 I M) {f0 f1 f2 f3 f4 f5 f6 : Nat → Int32} (h3 : PD f3) (h4 : RS (I 13) f4) : KX12 (upd (upd I 1 (I 13)) 2 (I 14)) (wb_mm (wb_mm (wb_mm (wb_mm (wb_mm (wb_mm (wb_mm M 0 f0) 1 f1) 2 f2) 3 f3) 4 f4) 5 f5) 6 f6) := ⟨k.i13, k.i14, k.i3, k.i6, k.i7, k.i12, k.i13, k.i14, k.i16, k.i17, k.i18, k.i19, k.m7, k.m12, k.m16, k.m23, k.m24, k.m27, k.m35, k.m36, h4, k.er2, k.een, k.edn, k.elv, k.ese, k.esi, h3, trivial⟩
theorem KX12.fore {I : Nat → Int32} {M : Nat → Nat → Int32} (k : KX12 I M) {f0 f1 f2 f3 f4 f5 f6 : Nat → Int32} (h3 : ∀ j : Nat, 0 ≤ (f3 j).toInt ∧ (f3 j).toInt ≤ 1000000) (h4 : RS (I 1) f4) : KX12 (upd (upd I 13 (I 1)) 14 (I 2)) (wb_mm (wb_mm (wb_mm (wb_mm (wb_mm (wb_mm (wb_mm M 9 f0) 10 f1) 11 f2) 12 f3) 13 f4) 14 f5) 15 f6) := ⟨k.i1, k.i2, k.i3, k.i6, k.i7, k.i12, k.i1, k.i2, k.i16, k.i17, k.i18, k.i19, k.m7, h3, k.m16, k.m23, k.m24, k.m27, k.m35, k.m36, k.er1, h4, k.een, k.edn, k.elv, k.ese, k.esi, k.epd, trivial⟩
theorem tt_hs203 {N : Nat} (hN : 3000000000 ≤ N) (x : Int32) (I : Nat → Int32) (L : Int64) (M : Nat → Nat → Int32) (k : KX12 I M) (pd : PD (M 12)) : wq (fX12_house_J203 N x I L M) (fun r => KX12 r.2.1 r.2.2.2 ∧ True) := by
  unfold fX12_house_J203
  refine wq_b (tt_good N I L M) (fun r1 h1 => ?_)
  refine wq_i (fun hc => wq_s ⟨k, trivial⟩) (fun hc => ?_)
  rw [Option.bind_some, Option.bind_some]
  rw [tt_copies hN 28 _ 28 _ (by omega) (by decide), Option.bind_some, Option.bind_some]
  rw [tt_copies hN 28 _ 28 _ (by omega) (by decide), Option.bind_some, Option.bind_some]
  rw [tt_copies hN 28 _ 28 _ (by omega) (by decide), Option.bind_some, Option.bind_some]
  rw [tt_copies hN 28 _ 28 _ (by omega) (by decide), Option.bind_some, Option.bind_some]
  rw [tt_copies hN 84 _ 84 _ (by omega) (by decide), Option.bind_some, Option.bind_some]
  rw [tt_copies hN 30 _ 30 _ (by omega) (by decide), Option.bind_some, Option.bind_some]
  rw [tt_copies hN 30 _ 30 _ (by omega) (by decide), Option.bind_some, Option.bind_some]
  exact wq_s ⟨KX12.back k (PD.copy pd) (RS.copy k.er2 k.i13.2), trivial⟩
theorem tt_hs183 {N : Nat} (hN : 3000000000 ≤ N) (x : Int32) (g : (Nat → Int32) → Int64 → (Nat → Nat → Int32) → Option (Int32 × (Nat → Int32) × Int64 × (Nat → Nat → Int32))) (I : Nat → Int32) (L : Int64) (M : Nat → Nat → Int32) (k : KX12 I M) (pd : PD (M 12)) (Q : Int32 × (Nat → Int32) × Int64 × (Nat → Nat → Int32) → Prop) (hg : ∀ (J : Nat → Int32) (l : Int64) (m : Nat → Nat → Int32), KX12 J m → PD (m 12) → ((J 4).toInt ≠ 0 ∨ (J 8).toInt = 0 ∨ (I 7).toInt < (J 7).toInt) → wq (g J l m) Q) : wq (fX12_house_J183 N x g I L M) Q := by
  unfold fX12_house_J183
  refine wq_i (fun hc => ?_) (fun hc => ?_)
  · refine wq_b (tt_need hN I L M (1 : Int32) k) (fun r h => ?_)
    refine hg _ _ _ (by rw [h.1.1]; exact h.1.2.2.1) (by rw [h.1.1]; exact pd) ?_
    rcases h.2 with q | ⟨-, q⟩
    · exact Or.inl q
    · exact Or.inr q
  · refine wq_b (tt_need hN I L M (0 : Int32) k) (fun r h => ?_)
    refine hg _ _ _ (by rw [h.1.1]; exact h.1.2.2.1) (by rw [h.1.1]; exact pd) ?_
    rcases h.2 with q | ⟨-, q⟩
    · exact Or.inl q
    · exact Or.inr q
theorem tt_hs120 {N : Nat} (hN : 3000000000 ≤ N) (x : Int32) : ∀ (fu : Nat) (I : Nat → Int32) (L : Int64) (M : Nat → Nat → Int32), KX12 I M → PD (M 12) → 0 < fu → ((I 4).toInt ≠ 0 ∨ (I 8).toInt = 0 ∨ 601 - (I 7).toInt < (fu : Int)) → wq (fX12_house_L120 N x fu I L M) (fun r => KX12 r.2.1 r.2.2.2 ∧ True) := by
  intro fu
  induction fu with
  | zero => intro I L M k pd h0 h; exact absurd h0 (by decide)
  | succ fu ih =>
    intro I L M k pd h0 h
    rw [fX12_house_L120.eq_2]
    refine wq_b (tt_good N I L M) (fun r1 h1 => ?_)
    have l_0 := il_0
    refine wq_eq (fun hc => tt_hs203 hN x I L M k pd) (fun hc => ?_)
    refine wq_eq (fun hc2 => tt_hs203 hN x I L M k pd) (fun hc2 => ?_)
    have h4 : (I 4).toInt = 0 := by omega
    have hm : 601 - (I 7).toInt < ((fu + 1 : Nat) : Int) := by omega
    have nx : ∀ (r : (Nat → Int32) × Int64 × (Nat → Nat → Int32)), RP I (M 12) r → wq (fX12_house_J183 N x (fun q0 q1 q2 => fX12_house_L120 N x fu q0 q1 q2) r.1 r.2.1 r.2.2) (fun r => KX12 r.2.1 r.2.2.2 ∧ True) := by
      intro r hr
      refine tt_hs183 hN x _ r.1 r.2.1 r.2.2 hr.1 (hr.2.2.2 pd) _ (fun J l m kj pj hj => ?_)
      have h7 := hr.2.2.1
      have j7 := kj.i7
      have i7 := k.i7
      refine ih J l m kj pj (by omega) ?_
      omega
    refine wq_b (tt_fX12_knownWord hN I L M k) (fun r2 h2 => ?_)
    refine wq_i (fun hc => wq_b (tt_rs hN I L M k) (fun r h => nx r h)) (fun hc => ?_)
    refine wq_i (fun hc => wq_b (tt_rc hN I L M k) (fun r h => nx r h)) (fun hc => ?_)
    refine wq_i (fun hc => wq_b (tt_rh hN I L M k) (fun r h => nx r h)) (fun hc => ?_)
    exact wq_b (tt_wrong N I L M (1 : Int32) (by decide) k) (fun r h => nx r (RP.of h.1))
theorem tt_fX12_house {N : Nat} (hN : 3000000000 ≤ N) (I0 : Nat → Int32) (L0 : Int64) (M0 : Nat → Nat → Int32) (x1 : Int32) (k_I0 : KX12 I0 M0) : wq (fX12_house N I0 L0 M0 x1) (fun r => KX12 r.2.1 r.2.2.2 ∧ True) := by
  unfold fX12_house
  refine wq_v (fun I1 e1 => ?_)
  have k1 : KX12 I1 M0 := by rw [e1]; exact KX12.si0 k_I0
  refine wq_v (fun I2 e2 => ?_)
  have k2 : KX12 I2 M0 := by rw [e2]; exact KX12.si12 k1 ⟨by decide, by decide⟩
  refine wq_b (tt_fX12_begins hN I2 L0 M0 x1 k2) (fun r h => ?_)
  obtain ⟨-, k, -⟩ := h
  refine wq_i (fun hc => wq_s ⟨k, trivial⟩) (fun hc => ?_)
  rw [Option.bind_some, Option.bind_some]
  rw [tt_copies hN 28 _ 28 _ (by omega) (by decide), Option.bind_some, Option.bind_some]
  rw [tt_copies hN 28 _ 28 _ (by omega) (by decide), Option.bind_some, Option.bind_some]
  rw [tt_copies hN 28 _ 28 _ (by omega) (by decide), Option.bind_some, Option.bind_some]
  rw [tt_copies hN 28 _ 28 _ (by omega) (by decide), Option.bind_some, Option.bind_some]
  rw [tt_copies hN 84 _ 84 _ (by omega) (by decide), Option.bind_some, Option.bind_some]
  rw [tt_copies hN 30 _ 30 _ (by omega) (by decide), Option.bind_some, Option.bind_some]
  rw [tt_copies hN 30 _ 30 _ (by omega) (by decide), Option.bind_some, Option.bind_some]
  have kf := KX12.fore k (f0 := fun j => if j < 28 then r.2.2.2 0 j else r.2.2.2 9 j) (f1 := fun j => if j < 28 then r.2.2.2 1 j else r.2.2.2 10 j) (f2 := fun j => if j < 28 then r.2.2.2 2 j else r.2.2.2 11 j) (f5 := fun j => if j < 30 then r.2.2.2 5 j else r.2.2.2 14 j) (f6 := fun j => if j < 30 then r.2.2.2 6 j else r.2.2.2 15 j) (PD.copy0 k.epd k.m12) (RS.copy (g := r.2.2.2 13) k.er1 k.i1.2)
  have i7 := k.i7
  refine tt_hs120 hN x1 N _ _ _ kf (PD.copy k.epd) (by omega) (Or.inr (Or.inr ?_))
  show 601 - (r.2.1 7).toInt < _
  omega
set_option maxHeartbeats 4000000 in
theorem tt_fX12_isBook {N : Nat} (hN : 3000000000 ≤ N) (I0 : Nat → Int32) (L0 : Int64) (M0 : Nat → Nat → Int32) (x1 : Int32) (k_I0 : KX12 I0 M0) : wq (fX12_isBook N I0 L0 M0 x1) (fun r => (r.1.toInt = 0 ∨ (r.1.toInt = 1 ∧ 0 ≤ x1.toInt ∧ x1.toInt ≤ 5)) ∧ (r.2.1 1).toInt = (I0 1).toInt ∧ (0 ≤ r.1.toInt ∧ r.1.toInt ≤ 1) ∧ KX12 r.2.1 r.2.2.2 ∧ True) := by
  unfold fX12_isBook
  have b_30355 := i32b x1
  have l_0 := il_0
  refine wq_lt (fun hc_30356 => ?_) (fun hc_30357 => ?_)
  · have l_1 := il_1
    refine wq_b (tt_fX12_right hN I0 L0 M0 (0 : Int32) (1 : Int32) ⟨by omega, by omega⟩ k_I0) (fun r1_q30358 h_r1_q30358 => ?_)
    obtain ⟨h_r1_q30358_0, h_r1_q30358_1, h_r1_q30358_2, h_r1_q30358_3, -⟩ := h_r1_q30358
    have t_30359 := KX12.i1 h_r1_q30358_3
    have t_30360 := KX12.i1 k_I0
    refine wq_bz (by omega) ?_
    exact wq_s ⟨(show (r1_q30358.1.toInt = 0 ∨ (r1_q30358.1.toInt = 1 ∧ 0 ≤ x1.toInt ∧ x1.toInt ≤ 5)) from by omega), (show (r1_q30358.2.1 1).toInt = (I0 1).toInt from by omega), (show 0 ≤ r1_q30358.1.toInt ∧ r1_q30358.1.toInt ≤ 1 from ⟨by omega, by omega⟩), h_r1_q30358_3, trivial⟩
  · have l_6 := il_6
    refine wq_le (fun hc_30361 => ?_) (fun hc_30362 => ?_)
    · have l_1 := il_1
      refine wq_b (tt_fX12_right hN I0 L0 M0 (0 : Int32) (1 : Int32) ⟨by omega, by omega⟩ k_I0) (fun r2_q30363 h_r2_q30363 => ?_)
      obtain ⟨h_r2_q30363_0, h_r2_q30363_1, h_r2_q30363_2, h_r2_q30363_3, -⟩ := h_r2_q30363
      have t_30364 := KX12.i1 h_r2_q30363_3
      have t_30365 := KX12.i1 k_I0
      refine wq_bz (by omega) ?_
      exact wq_s ⟨(show (r2_q30363.1.toInt = 0 ∨ (r2_q30363.1.toInt = 1 ∧ 0 ≤ x1.toInt ∧ x1.toInt ≤ 5)) from by omega), (show (r2_q30363.2.1 1).toInt = (I0 1).toInt from by omega), (show 0 ≤ r2_q30363.1.toInt ∧ r2_q30363.1.toInt ≤ 1 from ⟨by omega, by omega⟩), h_r2_q30363_3, trivial⟩
    · have l_1 := il_1
      refine wq_b (tt_fX12_right hN I0 L0 M0 (1 : Int32) (1 : Int32) ⟨by omega, by omega⟩ k_I0) (fun r3_q30366 h_r3_q30366 => ?_)
      obtain ⟨h_r3_q30366_0, h_r3_q30366_1, h_r3_q30366_2, h_r3_q30366_3, -⟩ := h_r3_q30366
      have t_30367 := KX12.i1 h_r3_q30366_3
      have t_30368 := KX12.i1 k_I0
      refine wq_bz (by omega) ?_
      exact wq_s ⟨(show (r3_q30366.1.toInt = 0 ∨ (r3_q30366.1.toInt = 1 ∧ 0 ≤ x1.toInt ∧ x1.toInt ≤ 5)) from by omega), (show (r3_q30366.2.1 1).toInt = (I0 1).toInt from by omega), (show 0 ≤ r3_q30366.1.toInt ∧ r3_q30366.1.toInt ≤ 1 from ⟨by omega, by omega⟩), h_r3_q30366_3, trivial⟩
set_option maxHeartbeats 4000000 in
theorem tt_fX12_isWheel {N : Nat} (hN : 3000000000 ≤ N) (I0 : Nat → Int32) (L0 : Int64) (M0 : Nat → Nat → Int32) (x1 : Int32) (x2 : Int32) (k_I0 : KX12 I0 M0) : wq (fX12_isWheel N I0 L0 M0 x1 x2) (fun r => (r.1.toInt = 0 ∨ (r.1.toInt = 1 ∧ 0 ≤ x1.toInt ∧ x1.toInt ≤ 5 ∧ 0 ≤ x2.toInt ∧ x2.toInt ≤ 19)) ∧ (r.2.1 1).toInt = (I0 1).toInt ∧ (0 ≤ r.1.toInt ∧ r.1.toInt ≤ 1) ∧ KX12 r.2.1 r.2.2.2 ∧ True) := by
  unfold fX12_isWheel
  refine wq_v (fun I0_1_q30555 h_I0_1_q30555 => ?_)
  have k_I0_1_q30555 : KX12 I0_1_q30555 M0 := by rw [h_I0_1_q30555]; exact KX12.si0 k_I0
  have b_30556 := i32b x1
  have l_0 := il_0
  refine wq_lt (fun hc_30557 => ?_) (fun hc_30558 => ?_)
  · have l_1 := il_1
    refine wq_b (tt_fX12_right hN I0_1_q30555 L0 M0 (0 : Int32) (1 : Int32) ⟨by omega, by omega⟩ k_I0_1_q30555) (fun r2_q30559 h_r2_q30559 => ?_)
    obtain ⟨h_r2_q30559_0, h_r2_q30559_1, h_r2_q30559_2, h_r2_q30559_3, -⟩ := h_r2_q30559
    have t_30560 := KX12.i1 h_r2_q30559_3
    have t_30561 := KX12.i1 k_I0
    have t_30562 : (I0_1_q30555 1).toInt = (I0 1).toInt := by rw [h_I0_1_q30555]; rfl
    refine wq_bz (by omega) ?_
    have b_30563 := i32b x2
    exact wq_s ⟨(show (r2_q30559.1.toInt = 0 ∨ (r2_q30559.1.toInt = 1 ∧ 0 ≤ x1.toInt ∧ x1.toInt ≤ 5 ∧ 0 ≤ x2.toInt ∧ x2.toInt ≤ 19)) from by omega), (show (r2_q30559.2.1 1).toInt = (I0 1).toInt from by omega), (show 0 ≤ r2_q30559.1.toInt ∧ r2_q30559.1.toInt ≤ 1 from ⟨by omega, by omega⟩), h_r2_q30559_3, trivial⟩
  · have l_6 := il_6
    refine wq_le (fun hc_30564 => ?_) (fun hc_30565 => ?_)
    · have l_1 := il_1
      refine wq_b (tt_fX12_right hN I0_1_q30555 L0 M0 (0 : Int32) (1 : Int32) ⟨by omega, by omega⟩ k_I0_1_q30555) (fun r3_q30566 h_r3_q30566 => ?_)
      obtain ⟨h_r3_q30566_0, h_r3_q30566_1, h_r3_q30566_2, h_r3_q30566_3, -⟩ := h_r3_q30566
      have t_30567 := KX12.i1 h_r3_q30566_3
      have t_30568 := KX12.i1 k_I0
      have t_30569 : (I0_1_q30555 1).toInt = (I0 1).toInt := by rw [h_I0_1_q30555]; rfl
      refine wq_bz (by omega) ?_
      have b_30570 := i32b x2
      exact wq_s ⟨(show (r3_q30566.1.toInt = 0 ∨ (r3_q30566.1.toInt = 1 ∧ 0 ≤ x1.toInt ∧ x1.toInt ≤ 5 ∧ 0 ≤ x2.toInt ∧ x2.toInt ≤ 19)) from by omega), (show (r3_q30566.2.1 1).toInt = (I0 1).toInt from by omega), (show 0 ≤ r3_q30566.1.toInt ∧ r3_q30566.1.toInt ≤ 1 from ⟨by omega, by omega⟩), h_r3_q30566_3, trivial⟩
    · have b_30571 := i32b x2
      refine wq_lt (fun hc_30572 => ?_) (fun hc_30573 => ?_)
      · have l_1 := il_1
        refine wq_b (tt_fX12_right hN I0_1_q30555 L0 M0 (0 : Int32) (1 : Int32) ⟨by omega, by omega⟩ k_I0_1_q30555) (fun r4_q30574 h_r4_q30574 => ?_)
        obtain ⟨h_r4_q30574_0, h_r4_q30574_1, h_r4_q30574_2, h_r4_q30574_3, -⟩ := h_r4_q30574
        have t_30575 := KX12.i1 h_r4_q30574_3
        have t_30576 := KX12.i1 k_I0
        have t_30577 : (I0_1_q30555 1).toInt = (I0 1).toInt := by rw [h_I0_1_q30555]; rfl
        refine wq_bz (by omega) ?_
        exact wq_s ⟨(show (r4_q30574.1.toInt = 0 ∨ (r4_q30574.1.toInt = 1 ∧ 0 ≤ x1.toInt ∧ x1.toInt ≤ 5 ∧ 0 ≤ x2.toInt ∧ x2.toInt ≤ 19)) from by omega), (show (r4_q30574.2.1 1).toInt = (I0 1).toInt from by omega), (show 0 ≤ r4_q30574.1.toInt ∧ r4_q30574.1.toInt ≤ 1 from ⟨by omega, by omega⟩), h_r4_q30574_3, trivial⟩
      · have l_20 := il_20
        refine wq_le (fun hc_30578 => ?_) (fun hc_30579 => ?_)
        · have l_1 := il_1
          refine wq_b (tt_fX12_right hN I0_1_q30555 L0 M0 (0 : Int32) (1 : Int32) ⟨by omega, by omega⟩ k_I0_1_q30555) (fun r5_q30580 h_r5_q30580 => ?_)
          obtain ⟨h_r5_q30580_0, h_r5_q30580_1, h_r5_q30580_2, h_r5_q30580_3, -⟩ := h_r5_q30580
          have t_30581 := KX12.i1 h_r5_q30580_3
          have t_30582 := KX12.i1 k_I0
          have t_30583 : (I0_1_q30555 1).toInt = (I0 1).toInt := by rw [h_I0_1_q30555]; rfl
          refine wq_bz (by omega) ?_
          exact wq_s ⟨(show (r5_q30580.1.toInt = 0 ∨ (r5_q30580.1.toInt = 1 ∧ 0 ≤ x1.toInt ∧ x1.toInt ≤ 5 ∧ 0 ≤ x2.toInt ∧ x2.toInt ≤ 19)) from by omega), (show (r5_q30580.2.1 1).toInt = (I0 1).toInt from by omega), (show 0 ≤ r5_q30580.1.toInt ∧ r5_q30580.1.toInt ≤ 1 from ⟨by omega, by omega⟩), h_r5_q30580_3, trivial⟩
        · have l_1 := il_1
          refine wq_b (tt_fX12_right hN I0_1_q30555 L0 M0 (1 : Int32) (1 : Int32) ⟨by omega, by omega⟩ k_I0_1_q30555) (fun r6_q30584 h_r6_q30584 => ?_)
          obtain ⟨h_r6_q30584_0, h_r6_q30584_1, h_r6_q30584_2, h_r6_q30584_3, -⟩ := h_r6_q30584
          have t_30585 := KX12.i1 h_r6_q30584_3
          have t_30586 := KX12.i1 k_I0
          have t_30587 : (I0_1_q30555 1).toInt = (I0 1).toInt := by rw [h_I0_1_q30555]; rfl
          refine wq_bz (by omega) ?_
          exact wq_s ⟨(show (r6_q30584.1.toInt = 0 ∨ (r6_q30584.1.toInt = 1 ∧ 0 ≤ x1.toInt ∧ x1.toInt ≤ 5 ∧ 0 ≤ x2.toInt ∧ x2.toInt ≤ 19)) from by omega), (show (r6_q30584.2.1 1).toInt = (I0 1).toInt from by omega), (show 0 ≤ r6_q30584.1.toInt ∧ r6_q30584.1.toInt ≤ 1 from ⟨by omega, by omega⟩), h_r6_q30584_3, trivial⟩
/-- an ENTRY is read: as RO, and behind it a fault, the text's end, or a byte on -/
def EP (I : Nat → Int32) (r : (Nat → Int32) × Int64 × (Nat → Nat → Int32)) : Prop := RO I r ∧ ((r.1 4).toInt ≠ 0 ∨ (r.1 8).toInt = 0 ∨ (I 7).toInt < (r.1 7).toInt)
theorem EP.go {I J : Nat → Int32} {q : (Nat → Int32) × Int64 × (Nat → Nat → Int32)} (a : (I 4).toInt = 0 ∨ (J 4).toInt ≠ 0) (b : (I 7).toInt ≤ (J 7).toInt) (g : EP J q) : EP I q := ⟨RO.go a b g.1, by have c := g.2; omega⟩
theorem tt_re193 {N : Nat} (hN : 3000000000 ≤ N) (I : Nat → Int32) (L : Int64) (M : Nat → Nat → Int32) (k : KX12 I M) : wq (fX12_readsEntry_J193 N I L M) (EP I) := by
  unfold fX12_readsEntry_J193
  have h : ∀ z : Int32, wq ((fX12_need N I L M z).bind fun r2 => some (r2.1, r2.2.1, r2.2.2)) (EP I) := by
    intro z
    refine wq_b (tt_need hN I L M z k) (fun r h => ?_)
    refine wq_s ⟨RO.of h.1, ?_⟩
    rcases h.2 with q | q
    · exact Or.inl q
    · exact Or.inr q.2
  exact wq_i (fun _ => h 1) (fun _ => h 0)
theorem tt_re168 {N : Nat} (hN : 3000000000 ≤ N) (I : Nat → Int32) (L : Int64) (M : Nat → Nat → Int32) (y2 y3 z0 z1 : Int32) (k : KX12 I M) (h : (I 4).toInt ≠ 0 ∨ ((0 ≤ y2.toInt ∧ y2.toInt ≤ 21) ∧ (0 ≤ y3.toInt ∧ y3.toInt ≤ 12) ∧ (y2.toInt = 21 ∨ y3.toInt ≤ 11))) (hz1 : z1.toInt = 0) (hz0 : z0.toInt ≤ 29) : wq (fX12_readsEntry_J168 N I L M y2 y3 z0 z1) (EP I) := by
  unfold fX12_readsEntry_J168
  have l_0 := il_0
  have l_30 := il_30
  refine wq_b (tt_number hN I L M z1 z0 k) (fun r3 h3 => ?_)
  obtain ⟨n3, g3⟩ := h3
  refine wq_v (fun v4 e4 => ?_)
  have t4 := congrArg Int32.toInt e4
  rw [n3.1]
  refine wq_b (tt_good N r3.2.1 r3.2.2.1 M) (fun r5 h5 => ?_)
  refine wq_eq (fun hc => ?_) (fun hc => ?_)
  · exact wq_w (tt_re193 hN r3.2.1 r3.2.2.1 M n3.2.2.1) (fun q g => EP.go n3.2.2.2.1 n3.2.2.2.2 g)
  · have i4 : (I 4).toInt = 0 := by have := n3.2.2.2.1; omega
    obtain ⟨w1, w2, w3⟩ := h.resolve_left (fun q => q i4)
    have p := g3.resolve_left (by omega)
    refine wq_in (n := 22) ⟨by omega, by omega⟩ (wq_v (fun M6 e6 => ?_))
    have ta := ia_mul (30 : Int32) 30 il_30 y3 (by omega) (by omega)
    have tb := ia_add ((30 : Int32) * y3) v4 (by omega) (by omega)
    have tn := tn_of y2 (by omega)
    subst e6
    have k6 : KX12 r3.2.1 (wb_um M 16 y2.toNatClampNeg ((30 : Int32) * y3 + v4)) := KX12.sm16 n3.2.2.1 ⟨by omega, by omega⟩ (DN.um n3.2.2.1.edn (fun q => by omega))
    exact wq_w (tt_re193 hN r3.2.1 r3.2.2.1 _ k6) (fun q g => EP.go n3.2.2.2.1 n3.2.2.2.2 g)
theorem tt_re144 {N : Nat} (hN : 3000000000 ≤ N) (I : Nat → Int32) (L : Int64) (M : Nat → Nat → Int32) (y1 y2 z0 z1 : Int32) (k : KX12 I M) (h : (I 4).toInt ≠ 0 ∨ ((0 ≤ y2.toInt ∧ y2.toInt ≤ 21) ∧ z0.toInt ≤ 12 ∧ (y2.toInt = 21 ∨ z0.toInt ≤ 11))) (hz1 : z1.toInt = 0) : wq (fX12_readsEntry_J144 N I L M y1 y2 z0 z1) (EP I) := by
  unfold fX12_readsEntry_J144 fX12_readsEntry_J166
  refine wq_b (tt_number hN I L M z1 z0 k) (fun r7 h7 => ?_)
  obtain ⟨n7, g7⟩ := h7
  refine wq_v (fun v8 e8 => ?_)
  have t8 := congrArg Int32.toInt e8
  rw [n7.1]
  have hh : ∀ w : Int32, w.toInt ≤ 29 → wq (fX12_readsEntry_J168 N r7.2.1 r7.2.2.1 M y2 v8 w 0) (EP I) := by
    intro w hw
    refine wq_w (tt_re168 hN r7.2.1 r7.2.2.1 M y2 v8 w 0 n7.2.2.1 ?_ il_0 hw) (fun q g => EP.go n7.2.2.2.1 n7.2.2.2.2 g)
    have a := n7.2.2.2.1
    rcases g7 with q | q
    · exact Or.inl q
    · by_cases c4 : (r7.2.1 4).toInt = 0
      · right
        have := h.resolve_left (by omega)
        omega
      · exact Or.inl c4
  refine wq_i (fun _ => wq_i (fun _ => hh 4 (by decide)) (fun _ => hh 29 (by decide))) (fun _ => hh 29 (by decide))
theorem tt_re129 {N : Nat} (hN : 3000000000 ≤ N) (I : Nat → Int32) (L : Int64) (M : Nat → Nat → Int32) (y1 y2 : Int32) (k : KX12 I M) (h : (I 4).toInt ≠ 0 ∨ ((0 ≤ y2.toInt ∧ y2.toInt ≤ 21) ∧ (y1.toInt ≠ 10 ∨ y2.toInt = 21))) : wq (fX12_readsEntry_J129 N I L M y1 y2) (EP I) := by
  unfold fX12_readsEntry_J129
  have l_10 := il_10
  have l_11 := il_11
  have l_12 := il_12
  refine wq_eq (fun hc => ?_) (fun hc => ?_)
  · exact tt_re144 hN I L M y1 y2 12 0 k (by omega) il_0
  · exact tt_re144 hN I L M y1 y2 11 0 k (by omega) il_0
theorem tt_re62 {N : Nat} (hN : 3000000000 ≤ N) (I : Nat → Int32) (L : Int64) (M : Nat → Nat → Int32) (y1 y2 : Int32) (k : KX12 I M) (h : (I 4).toInt ≠ 0 ∨ y1.toInt = 9 ∨ ((0 ≤ y2.toInt ∧ y2.toInt ≤ 21) ∧ (y1.toInt ≠ 10 ∨ y2.toInt = 21))) : wq (fX12_readsEntry_J62 N I L M y1 y2) (EP I) := by
  unfold fX12_readsEntry_J62
  have l_0 := il_0
  have l_1 := il_1
  have l_3 := il_3
  have l_9 := il_9
  have l_12 := il_12
  refine wq_b (tt_good N I L M) (fun r9 h9 => ?_)
  refine wq_eq (fun hc => ?_) (fun hc => ?_)
  · exact wq_s ⟨RO.of (M := M) (NP.rf k), Or.inl (by show (I 4).toInt ≠ 0; omega)⟩
  · refine wq_b (tt_steps hN I L M k) (fun r10 h10 => ?_)
    have n10 := NP.of h10
    rw [n10.1]
    refine wq_eq (fun hc9 => ?_) (fun hc9 => ?_)
    · refine wq_v (fun v11 e11 => ?_)
      refine wq_b (tt_number hN r10.1 r10.2.1 M 1 12 n10.2.2.1) (fun r12 h12 => ?_)
      obtain ⟨n12, g12⟩ := h12
      refine wq_v (fun v13 e13 => ?_)
      have t13 := congrArg Int32.toInt e13
      refine wq_v (fun v14 e14 => ?_)
      have t14 := congrArg Int32.toInt e14
      rw [n12.1]
      have na : NP I M r12.2 := NP.tr n10 n12
      refine wq_b (tt_good N r12.2.1 r12.2.2.1 M) (fun r15 h15 => ?_)
      refine wq_eq (fun hc2 => ?_) (fun hc2 => ?_)
      · exact wq_w (tt_re129 hN r12.2.1 r12.2.2.1 M y1 v14 na.2.2.1 (Or.inl (by omega))) (fun q g => EP.go na.2.2.2.1 na.2.2.2.2 g)
      · have p := g12.resolve_left (by omega)
        have ta := ia_add (9 : Int32) v13 (by omega) (by omega)
        have tb := ia_sub ((9 : Int32) + v13) (1 : Int32) (by omega) (by omega)
        refine wq_in (n := 22) ⟨by omega, by omega⟩ ?_
        refine wq_i (fun _ => ?_) (fun _ => ?_)
        · exact wq_w (tt_re129 hN r12.2.1 r12.2.2.1 M y1 v14 na.2.2.1 (Or.inr ⟨⟨by omega, by omega⟩, Or.inl (by omega)⟩)) (fun q g => EP.go na.2.2.2.1 na.2.2.2.2 g)
        · refine wq_v (fun I16 e16 => wq_v (fun I17 e17 => ?_))
          subst e16
          subst e17
          have k17 : KX12 (upd (upd r12.2.1 4 3) 5 v11) M := KX12.si5 (KX12.si4 na.2.2.1)
          refine wq_w (tt_re129 hN (upd (upd r12.2.1 4 3) 5 v11) r12.2.2.1 M y1 v14 k17 (Or.inl (show (3 : Int32).toInt ≠ 0 from by decide))) (fun q g => EP.go (J := upd (upd r12.2.1 4 3) 5 v11) (Or.inr (show (3 : Int32).toInt ≠ 0 from by decide)) na.2.2.2.2 g)
    · refine wq_w (tt_re129 hN r10.1 r10.2.1 M y1 y2 n10.2.2.1 ?_) (fun q g => EP.go n10.2.2.2.1 n10.2.2.2.2 g)
      have a := n10.2.2.2.1
      omega
theorem tt_re20 {N : Nat} (hN : 3000000000 ≤ N) (I : Nat → Int32) (L : Int64) (M : Nat → Nat → Int32) (y : Int32) (k : KX12 I M) (h : (I 4).toInt ≠ 0 ∨ (0 ≤ y.toInt ∧ y.toInt ≤ 10)) : wq (fX12_readsEntry_J20 N I L M y) (EP I) := by
  unfold fX12_readsEntry_J20 fX12_readsEntry_J40
  have l_0 := il_0
  have l_9 := il_9
  have l_10 := il_10
  have l_21 := il_21
  refine wq_b (tt_good N I L M) (fun r19 h19 => ?_)
  refine wq_eq (fun hc => ?_) (fun hc => ?_)
  · exact wq_s ⟨RO.of (M := M) (NP.rf k), Or.inl (by show (I 4).toInt ≠ 0; omega)⟩
  · have hh : ∀ z : Int32, (0 ≤ z.toInt ∧ z.toInt ≤ 21) → (y.toInt ≠ 10 ∨ z.toInt = 21) → wq (if y = 9 then fX12_readsEntry_J62 N I L M y z else if (z < 0 ∨ 22 ≤ z.toNatClampNeg) then none else if (M 16 z.toNatClampNeg) = -1 then fX12_readsEntry_J62 N I L M y z else (fX12_wrong N I L M 3).bind fun r18 => fX12_readsEntry_J62 N r18.1 r18.2.1 r18.2.2 y z) (EP I) := by
      intro z hz hz2
      refine wq_eq (fun hc9 => ?_) (fun hc9 => ?_)
      · exact tt_re62 hN I L M y z k (Or.inr (Or.inl (by omega)))
      · refine wq_in (n := 22) ⟨by omega, by omega⟩ ?_
        refine wq_i (fun _ => ?_) (fun _ => ?_)
        · exact tt_re62 hN I L M y z k (Or.inr (Or.inr ⟨hz, hz2⟩))
        · refine wq_b (tt_wrong N I L M 3 (by decide) k) (fun r18 h18 => ?_)
          rw [h18.1.1]
          exact wq_w (tt_re62 hN r18.1 r18.2.1 M y z h18.1.2.2.1 (Or.inl h18.2)) (fun q g => EP.go h18.1.2.2.2.1 h18.1.2.2.2.2 g)
    refine wq_eq (fun hc10 => ?_) (fun hc10 => ?_)
    · exact hh 21 ⟨by decide, by decide⟩ (Or.inr (by decide))
    · exact hh y ⟨by omega, by omega⟩ (Or.inl (by omega))
theorem tt_re {N : Nat} (hN : 3000000000 ≤ N) (I : Nat → Int32) (L : Int64) (M : Nat → Nat → Int32) (k : KX12 I M) : wq (fX12_readsEntry N I L M) (EP I) := by
  unfold fX12_readsEntry fX12_readsEntry_J15
  have l_0 := il_0
  have l_10 := il_10
  have hw : ∀ y : Int32, wq ((fX12_wrong N I L M 1).bind fun r20 => fX12_readsEntry_J20 N r20.1 r20.2.1 r20.2.2 y) (EP I) := by
    intro y
    refine wq_b (tt_wrong N I L M 1 (by decide) k) (fun r h => ?_)
    rw [h.1.1]
    exact wq_w (tt_re20 hN r.1 r.2.1 M y h.1.2.2.1 (Or.inl h.2)) (fun q g => EP.go h.1.2.2.2.1 h.1.2.2.2.2 g)
  refine wq_b (tt_fX12_knownWord hN I L M k) (fun r21 h21 => ?_)
  refine wq_lt (fun hc => hw _) (fun hc => ?_)
  refine wq_le (fun hc2 => ?_) (fun hc2 => hw _)
  exact tt_re20 hN I L M r21 k (Or.inr ⟨by omega, by omega⟩)
theorem EN.um {f : Nat → Int32} (h : EN f) {i : Nat} {v : Int32} (hv : ∀ n e : Nat, e < 21 → 22 * n + e = i → v.toInt ≤ 359) : EN (upd f i v) := by
  intro n e he
  unfold upd
  by_cases q : 22 * n + e = i
  · rw [if_pos q]; exact hv n e he q
  · rw [if_neg q]; exact h n e he
theorem tt_wh86 {N : Nat} (hN : 3000000000 ≤ N) (x1 x2 x3 : Int32) (h1 : 0 ≤ x1.toInt ∧ x1.toInt ≤ 5) (h2 : 0 ≤ x2.toInt ∧ x2.toInt ≤ 19) : ∀ (fu : Nat) (I : Nat → Int32) (L : Int64) (M : Nat → Nat → Int32) (y : Int32), KX12 I M → (0 ≤ y.toInt ∧ y.toInt ≤ 22) → 22 - y.toInt < (fu : Int) → wq (fX12_wheel_L86 N x1 x2 x3 fu I L M y) (fun r => KX12 r.2.1 r.2.2.2 ∧ True) := by
  intro fu
  induction fu with
  | zero => intro I L M y k hy hm; exfalso; omega
  | succ fu ih =>
    intro I L M y k hy hm
    rw [fX12_wheel_L86.eq_2]
    have l_22 := il_22
    have l_20 := il_20
    have l_1 := il_1
    refine wq_le (fun hc => wq_s ⟨k, trivial⟩) (fun hc => ?_)
    have t1 := ia_mul (20 : Int32) 20 il_20 x1 (by omega) (by omega)
    have t2 := ia_add ((20 : Int32) * x1) x2 (by omega) (by omega)
    have t3 := ia_mul (22 : Int32) 22 il_22 ((20 : Int32) * x1 + x2) (by omega) (by omega)
    have t4 := ia_add ((22 : Int32) * ((20 : Int32) * x1 + x2)) y (by omega) (by omega)
    refine wq_in (n := 22) ⟨by omega, by omega⟩ ?_
    refine wq_in (n := 2640) ⟨by omega, by omega⟩ ?_
    refine wq_v (fun M2 e2 => ?_)
    have k2 : KX12 I M2 := by
      rw [e2]
      refine KX12.sm7 k (k.m16 _) (EN.um k.een (fun n e he q => ?_))
      have n1 := tn_of ((22 : Int32) * ((20 : Int32) * x1 + x2) + y) (by omega)
      have n2 := tn_of y (by omega)
      exact k.edn y.toNatClampNeg (by omega)
    have t5 := ia_add y (1 : Int32) (by omega) (by omega)
    refine wq_v (fun v e => ?_)
    have t6 := congrArg Int32.toInt e
    exact ih I L M2 v k2 ⟨by omega, by omega⟩ (by omega)
theorem tt_wh71 {N : Nat} (hN : 3000000000 ≤ N) (x1 x2 x3 : Int32) (h1 : 0 ≤ x1.toInt ∧ x1.toInt ≤ 5) (h2 : 0 ≤ x2.toInt ∧ x2.toInt ≤ 19) (I : Nat → Int32) (L : Int64) (M : Nat → Nat → Int32) (k : KX12 I M) : wq (fX12_wheel_J71 N x1 x2 x3 I L M) (fun r => KX12 r.2.1 r.2.2.2 ∧ True) := by
  unfold fX12_wheel_J71
  refine wq_b (tt_good N I L M) (fun r1 _ => ?_)
  refine wq_i (fun hc => wq_s ⟨k, trivial⟩) (fun hc => ?_)
  have l_0 := il_0
  exact tt_wh86 hN x1 x2 x3 h1 h2 N I L M (0 : Int32) k ⟨by omega, by omega⟩ (by omega)
theorem tt_wh50 {N : Nat} (hN : 3000000000 ≤ N) (x1 x2 x3 : Int32) (g : (Nat → Int32) → Int64 → (Nat → Nat → Int32) → Int32 → Option (Int32 × (Nat → Int32) × Int64 × (Nat → Nat → Int32))) (h1 : 0 ≤ x1.toInt ∧ x1.toInt ≤ 5) (h2 : 0 ≤ x2.toInt ∧ x2.toInt ≤ 19) : ∀ (fu : Nat) (I : Nat → Int32) (L : Int64) (M : Nat → Nat → Int32), KX12 I M → 0 < fu → ((I 4).toInt ≠ 0 ∨ (I 8).toInt = 0 ∨ 601 - (I 7).toInt < (fu : Int)) → wq (fX12_wheel_L50 N x1 x2 x3 g fu I L M) (fun r => KX12 r.2.1 r.2.2.2 ∧ True) := by
  intro fu
  induction fu with
  | zero => intro I L M k h0 h; exact absurd h0 (by decide)
  | succ fu ih =>
    intro I L M k h0 h
    rw [fX12_wheel_L50.eq_2]
    refine wq_b (tt_good N I L M) (fun r1 hr1 => ?_)
    have l_0 := il_0
    refine wq_eq (fun hc => tt_wh71 hN x1 x2 x3 h1 h2 I L M k) (fun hc => ?_)
    refine wq_eq (fun hc2 => tt_wh71 hN x1 x2 x3 h1 h2 I L M k) (fun hc2 => ?_)
    refine wq_b (tt_re hN I L M k) (fun r hr => ?_)
    have a1 := hr.2
    have a2 := hr.1.2.2
    have a3 := hr.1.1.i7
    have a4 := k.i7
    refine ih r.1 r.2.1 r.2.2 hr.1.1 (by omega) ?_
    omega
theorem tt_wh29 {N : Nat} (hN : 3000000000 ≤ N) (x1 x2 x3 : Int32) (h1 : 0 ≤ x1.toInt ∧ x1.toInt ≤ 5) (h2 : 0 ≤ x2.toInt ∧ x2.toInt ≤ 19) : ∀ (fu : Nat) (I : Nat → Int32) (L : Int64) (M : Nat → Nat → Int32) (y : Int32), KX12 I M → (0 ≤ y.toInt ∧ y.toInt ≤ 22) → 22 - y.toInt < (fu : Int) → wq (fX12_wheel_L29 N x1 x2 x3 fu I L M y) (fun r => KX12 r.2.1 r.2.2.2 ∧ True) := by
  intro fu
  induction fu with
  | zero => intro I L M y k hy hm; exfalso; omega
  | succ fu ih =>
    intro I L M y k hy hm
    rw [fX12_wheel_L29.eq_2]
    have l_22 := il_22
    have l_m1 := il_m1
    have l_1 := il_1
    have i7 := k.i7
    refine wq_le (fun hc => tt_wh50 hN x1 x2 x3 _ h1 h2 N I L M k (by omega) (Or.inr (Or.inr (by omega)))) (fun hc => ?_)
    refine wq_in (n := 22) ⟨by omega, by omega⟩ ?_
    refine wq_v (fun M2 e2 => ?_)
    have k2 : KX12 I M2 := by
      rw [e2]
      exact KX12.sm16 k ⟨by decide, by decide⟩ (DN.um k.edn (fun _ => by decide))
    have t5 := ia_add y (1 : Int32) (by omega) (by omega)
    refine wq_v (fun v e => ?_)
    have t6 := congrArg Int32.toInt e
    exact ih I L M2 v k2 ⟨by omega, by omega⟩ (by omega)
theorem tt_fX12_wheel {N : Nat} (hN : 3000000000 ≤ N) (I0 : Nat → Int32) (L0 : Int64) (M0 : Nat → Nat → Int32) (x1 : Int32) (x2 : Int32) (x3 : Int32) (k_I0 : KX12 I0 M0) : wq (fX12_wheel N I0 L0 M0 x1 x2 x3) (fun r => KX12 r.2.1 r.2.2.2 ∧ True) := by
  unfold fX12_wheel
  refine wq_b (tt_fX12_isWheel hN I0 L0 M0 x1 x2 k_I0) (fun r hr => ?_)
  have l_0 := il_0
  obtain ⟨hr0, -, hrx⟩ := hr
  have k : KX12 r.2.1 r.2.2.2 := by first | exact hrx.1 | exact hrx.2.1
  refine wq_eq (fun hc => wq_s ⟨k, trivial⟩) (fun hc => ?_)
  refine wq_v (fun I2 e2 => ?_)
  have k2 : KX12 I2 r.2.2.2 := by rw [e2]; exact KX12.si12 k ⟨by decide, by decide⟩
  refine wq_b (tt_fX12_begins hN I2 r.2.2.1 r.2.2.2 x3 k2) (fun q hq => ?_)
  obtain ⟨-, kq, -⟩ := hq
  refine wq_i (fun hc => wq_s ⟨kq, trivial⟩) (fun hc2 => ?_)
  exact tt_wh29 hN x1 x2 x3 ⟨by omega, by omega⟩ ⟨by omega, by omega⟩ N _ _ _ (0 : Int32) kq ⟨by omega, by omega⟩ (by omega)
set_option maxHeartbeats 4000000 in
theorem tt_fX12_fault {N : Nat} (hN : 3000000000 ≤ N) (I0 : Nat → Int32) (L0 : Int64) (M0 : Nat → Nat → Int32) (k_I0 : KX12 I0 M0) : wq (fX12_fault N I0 L0 M0) (fun r => KX12 r.2.1 r.2.2.2 ∧ True) := by
  unfold fX12_fault
  refine wq_v (fun I0_1_q30600 h_I0_1_q30600 => ?_)
  have k_I0_1_q30600 : KX12 I0_1_q30600 M0 := by rw [h_I0_1_q30600]; exact KX12.si0 k_I0
  have t_30601 : (I0_1_q30600 5).toInt = (I0 5).toInt := by rw [h_I0_1_q30600]; rfl
  exact wq_s ⟨k_I0_1_q30600, trivial⟩
theorem tt_fX12_at {N : Nat} (hN : 3000000000 ≤ N) (I0 : Nat → Int32) (L0 : Int64) (M0 : Nat → Nat → Int32) (x1 : Int32) (x2 : Int32) (h_x1 : 0 ≤ x1.toInt ∧ x1.toInt ≤ 119) (h_x2 : 0 ≤ x2.toInt ∧ x2.toInt ≤ 21) (k_I0 : KX12 I0 M0) : wq (fX12_at N I0 L0 M0 x1 x2) (fun r => (r.toInt ≤ 359 ∨ x2.toInt = 21) ∧ (r.toInt = (M0 7 (((22 : Int32) * x1) + x2).toNatClampNeg).toInt) ∧ (-1 ≤ r.toInt ∧ r.toInt ≤ 389) ∧ True) := by
  unfold fX12_at
  have l_22 := il_22
  have t1 := ia_mul (22 : Int32) 22 il_22 x1 (by omega) (by omega)
  have t2 := ia_add ((22 : Int32) * x1) x2 (by omega) (by omega)
  refine wq_in (n := 2640) ⟨by omega, by omega⟩ ?_
  have tn := tn_of (((22 : Int32) * x1) + x2) (by omega)
  have e : (((22 : Int32) * x1) + x2).toNatClampNeg = 22 * x1.toInt.toNat + x2.toInt.toNat := by omega
  refine wq_s ⟨?_, rfl, k_I0.m7 _, trivial⟩
  by_cases h : x2.toInt = 21
  · exact Or.inr h
  · left
    rw [e]
    exact k_I0.een _ _ (by omega)
set_option maxHeartbeats 4000000 in
theorem tt_fX12_tells_L4 {N : Nat} (hN : 3000000000 ≤ N) (I0 : Nat → Int32) (L0 : Int64) (M0 : Nat → Nat → Int32) (x1 : Int32) (h_x1 : 0 ≤ x1.toInt ∧ x1.toInt ≤ 119) (k_I0 : KX12 I0 M0)  : ∀ (fu : Nat) (y4_2 : Int32) (y4_3 : Int32), (0 ≤ y4_2.toInt ∧ y4_2.toInt ≤ 1) → (0 ≤ y4_3.toInt ∧ y4_3.toInt ≤ 22) → (22 - y4_3.toInt) < (fu : Int) → wq (fX12_tells_L4 N I0 L0 M0 x1 fu y4_2 y4_3) (fun r => (0 ≤ r.toInt ∧ r.toInt ≤ 1) ∧ True) := by
  intro fu
  induction fu with
  | zero => intro y4_2 y4_3 h_y4_2 h_y4_3 hm; exfalso; omega
  | succ fu ih =>
    intro y4_2 y4_3 h_y4_2 h_y4_3 hm
    rw [fX12_tells_L4.eq_2]
    have l_22 := il_22
    refine wq_le (fun hc_30743 => ?_) (fun hc_30744 => ?_)
    · refine wq_bz (by omega) ?_
      exact wq_s ⟨(show 0 ≤ y4_2.toInt ∧ y4_2.toInt ≤ 1 from ⟨by omega, by omega⟩), trivial⟩
    · have l_0 := il_0
      refine wq_eq (fun hc_30745 => ?_) (fun hc_30746 => ?_)
      · refine wq_b (tt_fX12_at hN I0 L0 M0 x1 y4_3 ⟨by omega, by omega⟩ ⟨by omega, by omega⟩ k_I0) (fun r2_q30747 h_r2_q30747 => ?_)
        obtain ⟨h_r2_q30747_0, h_r2_q30747_1, h_r2_q30747_2, -⟩ := h_r2_q30747
        have l_m1 := il_m1
        refine wq_eq (fun hc_30748 => ?_) (fun hc_30749 => ?_)
        · have l_1 := il_1
          have t_30751 := ia_add y4_3 (1 : Int32) (by omega) (by omega)
          refine wq_v (fun v3_q30750 h_v3_q30750 => ?_)
          have t_v3_q30750 := congrArg Int32.toInt h_v3_q30750
          exact ih (0 : Int32) v3_q30750 ⟨by omega, by omega⟩ ⟨by omega, by omega⟩ (by omega)
        · have l_1 := il_1
          have t_30753 := ia_add y4_3 (1 : Int32) (by omega) (by omega)
          refine wq_v (fun v4_q30752 h_v4_q30752 => ?_)
          have t_v4_q30752 := congrArg Int32.toInt h_v4_q30752
          exact ih (1 : Int32) v4_q30752 ⟨by omega, by omega⟩ ⟨by omega, by omega⟩ (by omega)
      · have l_1 := il_1
        have t_30755 := ia_add y4_3 (1 : Int32) (by omega) (by omega)
        refine wq_v (fun v1_q30754 h_v1_q30754 => ?_)
        have t_v1_q30754 := congrArg Int32.toInt h_v1_q30754
        exact ih (1 : Int32) v1_q30754 ⟨by omega, by omega⟩ ⟨by omega, by omega⟩ (by omega)
set_option maxHeartbeats 4000000 in
theorem tt_fX12_tells {N : Nat} (hN : 3000000000 ≤ N) (I0 : Nat → Int32) (L0 : Int64) (M0 : Nat → Nat → Int32) (x1 : Int32) (h_x1 : 0 ≤ x1.toInt ∧ x1.toInt ≤ 119) (k_I0 : KX12 I0 M0) : wq (fX12_tells N I0 L0 M0 x1) (fun r => (0 ≤ r.toInt ∧ r.toInt ≤ 1) ∧ True) := by
  unfold fX12_tells
  have l_0 := il_0
  exact tt_fX12_tells_L4 hN I0 L0 M0 x1 ⟨by omega, by omega⟩ k_I0 N (0 : Int32) (0 : Int32) ⟨by omega, by omega⟩ ⟨by omega, by omega⟩ (by omega)
set_option maxHeartbeats 4000000 in
theorem tt_fX12_bookTells_L4 {N : Nat} (hN : 3000000000 ≤ N) (I0 : Nat → Int32) (L0 : Int64) (M0 : Nat → Nat → Int32) (x1 : Int32) (h_x1 : 0 ≤ x1.toInt ∧ x1.toInt ≤ 5) (k_I0 : KX12 I0 M0)  : ∀ (fu : Nat) (y4_2 : Int32) (y4_3 : Int32), (0 ≤ y4_2.toInt ∧ y4_2.toInt ≤ 1) → (0 ≤ y4_3.toInt ∧ y4_3.toInt ≤ 20) → (20 - y4_3.toInt) < (fu : Int) → wq (fX12_bookTells_L4 N I0 L0 M0 x1 fu y4_2 y4_3) (fun r => (0 ≤ r.toInt ∧ r.toInt ≤ 1) ∧ True) := by
  intro fu
  induction fu with
  | zero => intro y4_2 y4_3 h_y4_2 h_y4_3 hm; exfalso; omega
  | succ fu ih =>
    intro y4_2 y4_3 h_y4_2 h_y4_3 hm
    rw [fX12_bookTells_L4.eq_2]
    have l_20 := il_20
    refine wq_le (fun hc_30949 => ?_) (fun hc_30950 => ?_)
    · refine wq_bz (by omega) ?_
      exact wq_s ⟨(show 0 ≤ y4_2.toInt ∧ y4_2.toInt ≤ 1 from ⟨by omega, by omega⟩), trivial⟩
    · have l_0 := il_0
      refine wq_eq (fun hc_30951 => ?_) (fun hc_30952 => ?_)
      · have t_30953 := ia_mul (20 : Int32) (20) il_20 x1 (by omega) (by omega)
        have t_30954 := ia_add ((20 : Int32) * x1) y4_3 (by omega) (by omega)
        refine wq_b (tt_fX12_tells hN I0 L0 M0 (((20 : Int32) * x1) + y4_3) ⟨by omega, by omega⟩ k_I0) (fun r2_q30955 h_r2_q30955 => ?_)
        obtain ⟨h_r2_q30955_0, -⟩ := h_r2_q30955
        refine wq_eq (fun hc_30956 => ?_) (fun hc_30957 => ?_)
        · have l_1 := il_1
          have t_30959 := ia_add y4_3 (1 : Int32) (by omega) (by omega)
          refine wq_v (fun v3_q30958 h_v3_q30958 => ?_)
          have t_v3_q30958 := congrArg Int32.toInt h_v3_q30958
          exact ih (0 : Int32) v3_q30958 ⟨by omega, by omega⟩ ⟨by omega, by omega⟩ (by omega)
        · have l_1 := il_1
          have t_30961 := ia_add y4_3 (1 : Int32) (by omega) (by omega)
          refine wq_v (fun v4_q30960 h_v4_q30960 => ?_)
          have t_v4_q30960 := congrArg Int32.toInt h_v4_q30960
          exact ih (1 : Int32) v4_q30960 ⟨by omega, by omega⟩ ⟨by omega, by omega⟩ (by omega)
      · have l_1 := il_1
        have t_30963 := ia_add y4_3 (1 : Int32) (by omega) (by omega)
        refine wq_v (fun v1_q30962 h_v1_q30962 => ?_)
        have t_v1_q30962 := congrArg Int32.toInt h_v1_q30962
        exact ih (1 : Int32) v1_q30962 ⟨by omega, by omega⟩ ⟨by omega, by omega⟩ (by omega)
set_option maxHeartbeats 4000000 in
theorem tt_fX12_bookTells {N : Nat} (hN : 3000000000 ≤ N) (I0 : Nat → Int32) (L0 : Int64) (M0 : Nat → Nat → Int32) (x1 : Int32) (h_x1 : 0 ≤ x1.toInt ∧ x1.toInt ≤ 5) (k_I0 : KX12 I0 M0) : wq (fX12_bookTells N I0 L0 M0 x1) (fun r => (0 ≤ r.toInt ∧ r.toInt ≤ 1) ∧ True) := by
  unfold fX12_bookTells
  have l_0 := il_0
  exact tt_fX12_bookTells_L4 hN I0 L0 M0 x1 ⟨by omega, by omega⟩ k_I0 N (0 : Int32) (0 : Int32) ⟨by omega, by omega⟩ ⟨by omega, by omega⟩ (by omega)
theorem tt_fX12_floor {N : Nat} (hN : 3000000000 ≤ N) (x0 : Int64) (x1 : Int64) (hr_0 : x1 ≠ 0) : wq (fX12_floor N x0 x1) (fun r => True) := by
  unfold fX12_floor
  refine wq_n hr_0 (wq_v (fun v1 e1 => ?_))
  refine wq_n hr_0 ?_
  refine wq_i (fun _ => wq_s trivial) (fun _ => wq_i (fun _ => wq_s trivial) (fun _ => wq_s trivial))
theorem tt_fX12_placeOn {N : Nat} (hN : 3000000000 ≤ N) (I0 : Nat → Int32) (L0 : Int64) (M0 : Nat → Nat → Int32) (x1 : Int32) (x2 : Int32) (x3 : Int32) (h_x1 : 0 ≤ x1.toInt ∧ x1.toInt ≤ 3) (h_x2 : 0 ≤ x2.toInt ∧ x2.toInt ≤ 6) (k_I0 : KX12 I0 M0) : wq (fX12_placeOn N I0 L0 M0 x1 x2 x3) (fun r => True) := by
  unfold fX12_placeOn
  have l_7 := il_7
  have ta := ia_mul (7 : Int32) 7 il_7 x1 (by omega) (by omega)
  have tb := ia_add ((7 : Int32) * x1) x2 (by omega) (by omega)
  refine wq_v (fun v4 e4 => ?_)
  have tv := congrArg Int32.toInt e4
  have hin : 0 ≤ v4.toInt ∧ v4.toInt < ((28 : Nat) : Int) := ⟨by omega, by omega⟩
  have tn4 := tn_of v4 hin.1
  have k3 := k_I0.epd v4.toNatClampNeg (by omega)
  have hJ : ∀ a b c : Int64, wq (fX12_placeOn_J79 N I0 L0 M0 x1 x2 x3 v4 a b c) (fun r => True) := by
    intro a b c
    unfold fX12_placeOn_J79
    refine wq_in hin (wq_in hin (wq_in hin ?_))
    refine wq_b (tt_fX12_floor hN _ _ (i64nz (by omega))) (fun r1 _ => wq_v (fun v2 _ => wq_v (fun v3 _ => ?_)))
    exact wq_i (fun _ => wq_s trivial) (fun _ => wq_s trivial)
  refine wq_in hin (wq_nz (by omega) (wq_v (fun v5 _ => ?_)))
  refine wq_in hin (wq_v (fun v6 _ => ?_))
  refine wq_in hin (wq_in hin ?_)
  exact wq_i (fun _ => hJ _ _ _) (fun _ => hJ _ _ _)
set_option maxHeartbeats 4000000 in
theorem tt_fX12_place {N : Nat} (hN : 3000000000 ≤ N) (I0 : Nat → Int32) (L0 : Int64) (M0 : Nat → Nat → Int32) (x1 : Int32) (x2 : Int32) (x3 : Int32) (k_I0 : KX12 I0 M0) : wq (fX12_place N I0 L0 M0 x1 x2 x3) (fun r => KX12 r.2.1 r.2.2.2 ∧ True) := by
  unfold fX12_place
  refine wq_v (fun I0_3_q31252 h_I0_3_q31252 => ?_)
  have k_I0_3_q31252 : KX12 I0_3_q31252 M0 := by rw [h_I0_3_q31252]; exact KX12.si0 k_I0
  have b_31253 := i32b x1
  have l_0 := il_0
  have l_3 := il_3
  refine wq_b (tt_fX12_within hN x1 (0 : Int32) (3 : Int32)) (fun r4_q31254 h_r4_q31254 => ?_)
  obtain ⟨h_r4_q31254_0, h_r4_q31254_1, -⟩ := h_r4_q31254
  refine wq_eq (fun hc_31255 => ?_) (fun hc_31256 => ?_)
  · unfold fX12_place_J39
    unfold fX12_place_J40
    have l_1 := il_1
    refine wq_b (tt_fX12_right hN I0_3_q31252 L0 M0 (0 : Int32) (1 : Int32) ⟨by omega, by omega⟩ k_I0_3_q31252) (fun r1_q31257 h_r1_q31257 => ?_)
    obtain ⟨h_r1_q31257_0, h_r1_q31257_1, h_r1_q31257_2, h_r1_q31257_3, -⟩ := h_r1_q31257
    have t_31258 := KX12.i1 h_r1_q31257_3
    have t_31259 := KX12.i1 k_I0
    have t_31260 : (I0_3_q31252 1).toInt = (I0 1).toInt := by rw [h_I0_3_q31252]; rfl
    refine wq_eq (fun hc_31261 => ?_) (fun hc_31262 => ?_)
    · exact wq_s ⟨h_r1_q31257_3, trivial⟩
    · have b_31263 := i32b x2
      have b_31264 := i32b x3
      refine wq_b (tt_fX12_placeOn hN r1_q31257.2.1 r1_q31257.2.2.1 r1_q31257.2.2.2 x1 x2 x3 ⟨by omega, by omega⟩ ⟨by omega, by omega⟩ h_r1_q31257_3) (fun r2_q31265 h_r2_q31265 => ?_)
      obtain ⟨-⟩ := h_r2_q31265
      have b_31266 := i32b r2_q31265
      exact wq_s ⟨h_r1_q31257_3, trivial⟩
  · have b_31267 := i32b x2
    have l_6 := il_6
    refine wq_b (tt_fX12_within hN x2 (0 : Int32) (6 : Int32)) (fun r5_q31268 h_r5_q31268 => ?_)
    obtain ⟨h_r5_q31268_0, h_r5_q31268_1, -⟩ := h_r5_q31268
    refine wq_eq (fun hc_31269 => ?_) (fun hc_31270 => ?_)
    · unfold fX12_place_J39
      unfold fX12_place_J40
      have l_1 := il_1
      refine wq_b (tt_fX12_right hN I0_3_q31252 L0 M0 (0 : Int32) (1 : Int32) ⟨by omega, by omega⟩ k_I0_3_q31252) (fun r1_q31271 h_r1_q31271 => ?_)
      obtain ⟨h_r1_q31271_0, h_r1_q31271_1, h_r1_q31271_2, h_r1_q31271_3, -⟩ := h_r1_q31271
      have t_31272 := KX12.i1 h_r1_q31271_3
      have t_31273 := KX12.i1 k_I0
      have t_31274 : (I0_3_q31252 1).toInt = (I0 1).toInt := by rw [h_I0_3_q31252]; rfl
      refine wq_eq (fun hc_31275 => ?_) (fun hc_31276 => ?_)
      · exact wq_s ⟨h_r1_q31271_3, trivial⟩
      · have b_31277 := i32b x3
        refine wq_b (tt_fX12_placeOn hN r1_q31271.2.1 r1_q31271.2.2.1 r1_q31271.2.2.2 x1 x2 x3 ⟨by omega, by omega⟩ ⟨by omega, by omega⟩ h_r1_q31271_3) (fun r2_q31278 h_r2_q31278 => ?_)
        obtain ⟨-⟩ := h_r2_q31278
        have b_31279 := i32b r2_q31278
        exact wq_s ⟨h_r1_q31271_3, trivial⟩
    · have b_31280 := i32b x3
      have l_1000000 := il_1000000
      refine wq_b (tt_fX12_within hN x3 (0 : Int32) (1000000 : Int32)) (fun r6_q31281 h_r6_q31281 => ?_)
      obtain ⟨h_r6_q31281_0, h_r6_q31281_1, -⟩ := h_r6_q31281
      refine wq_eq (fun hc_31282 => ?_) (fun hc_31283 => ?_)
      · unfold fX12_place_J39
        unfold fX12_place_J40
        have l_1 := il_1
        refine wq_b (tt_fX12_right hN I0_3_q31252 L0 M0 (0 : Int32) (1 : Int32) ⟨by omega, by omega⟩ k_I0_3_q31252) (fun r1_q31284 h_r1_q31284 => ?_)
        obtain ⟨h_r1_q31284_0, h_r1_q31284_1, h_r1_q31284_2, h_r1_q31284_3, -⟩ := h_r1_q31284
        have t_31285 := KX12.i1 h_r1_q31284_3
        have t_31286 := KX12.i1 k_I0
        have t_31287 : (I0_3_q31252 1).toInt = (I0 1).toInt := by rw [h_I0_3_q31252]; rfl
        refine wq_eq (fun hc_31288 => ?_) (fun hc_31289 => ?_)
        · exact wq_s ⟨h_r1_q31284_3, trivial⟩
        · refine wq_b (tt_fX12_placeOn hN r1_q31284.2.1 r1_q31284.2.2.1 r1_q31284.2.2.2 x1 x2 x3 ⟨by omega, by omega⟩ ⟨by omega, by omega⟩ h_r1_q31284_3) (fun r2_q31290 h_r2_q31290 => ?_)
          obtain ⟨-⟩ := h_r2_q31290
          have b_31291 := i32b r2_q31290
          exact wq_s ⟨h_r1_q31284_3, trivial⟩
      · unfold fX12_place_J40
        have l_1 := il_1
        refine wq_b (tt_fX12_right hN I0_3_q31252 L0 M0 (1 : Int32) (1 : Int32) ⟨by omega, by omega⟩ k_I0_3_q31252) (fun r1_q31292 h_r1_q31292 => ?_)
        obtain ⟨h_r1_q31292_0, h_r1_q31292_1, h_r1_q31292_2, h_r1_q31292_3, -⟩ := h_r1_q31292
        have t_31293 := KX12.i1 h_r1_q31292_3
        have t_31294 := KX12.i1 k_I0
        have t_31295 : (I0_3_q31252 1).toInt = (I0 1).toInt := by rw [h_I0_3_q31252]; rfl
        refine wq_eq (fun hc_31296 => ?_) (fun hc_31297 => ?_)
        · exact wq_s ⟨h_r1_q31292_3, trivial⟩
        · refine wq_b (tt_fX12_placeOn hN r1_q31292.2.1 r1_q31292.2.2.1 r1_q31292.2.2.2 x1 x2 x3 ⟨by omega, by omega⟩ ⟨by omega, by omega⟩ h_r1_q31292_3) (fun r2_q31298 h_r2_q31298 => ?_)
          obtain ⟨-⟩ := h_r2_q31298
          have b_31299 := i32b r2_q31298
          exact wq_s ⟨h_r1_q31292_3, trivial⟩
set_option maxHeartbeats 4000000 in
theorem tt_fX12_entry {N : Nat} (hN : 3000000000 ≤ N) (I0 : Nat → Int32) (L0 : Int64) (M0 : Nat → Nat → Int32) (x1 : Int32) (x2 : Int32) (x3 : Int32) (k_I0 : KX12 I0 M0) : wq (fX12_entry N I0 L0 M0 x1 x2 x3) (fun r => (-1 ≤ r.1.toInt ∧ r.1.toInt ≤ 389) ∧ KX12 r.2.1 r.2.2.2 ∧ True) := by
  unfold fX12_entry
  have b_31396 := i32b x1
  have b_31397 := i32b x2
  refine wq_b (tt_fX12_isWheel hN I0 L0 M0 x1 x2 k_I0) (fun r1_q31398 h_r1_q31398 => ?_)
  obtain ⟨h_r1_q31398_0, h_r1_q31398_1, h_r1_q31398_2, h_r1_q31398_3, -⟩ := h_r1_q31398
  have t_31399 := KX12.i1 h_r1_q31398_3
  have t_31400 := KX12.i1 k_I0
  have l_0 := il_0
  refine wq_eq (fun hc_31401 => ?_) (fun hc_31402 => ?_)
  · exact wq_s ⟨(show -1 ≤ (0 : Int32).toInt ∧ (0 : Int32).toInt ≤ 389 from ⟨by omega, by omega⟩), h_r1_q31398_3, trivial⟩
  · have b_31403 := i32b x3
    have l_21 := il_21
    refine wq_b (tt_fX12_within hN x3 (0 : Int32) (21 : Int32)) (fun r2_q31404 h_r2_q31404 => ?_)
    obtain ⟨h_r2_q31404_0, h_r2_q31404_1, -⟩ := h_r2_q31404
    have l_1 := il_1
    refine wq_b (tt_fX12_right hN r1_q31398.2.1 r1_q31398.2.2.1 r1_q31398.2.2.2 r2_q31404 (1 : Int32) ⟨by omega, by omega⟩ h_r1_q31398_3) (fun r3_q31405 h_r3_q31405 => ?_)
    obtain ⟨h_r3_q31405_0, h_r3_q31405_1, h_r3_q31405_2, h_r3_q31405_3, -⟩ := h_r3_q31405
    have t_31406 := KX12.i1 h_r3_q31405_3
    refine wq_eq (fun hc_31407 => ?_) (fun hc_31408 => ?_)
    · exact wq_s ⟨(show -1 ≤ (0 : Int32).toInt ∧ (0 : Int32).toInt ≤ 389 from ⟨by omega, by omega⟩), h_r3_q31405_3, trivial⟩
    · have l_20 := il_20
      have t_31409 := ia_mul (20 : Int32) (20) il_20 x1 (by omega) (by omega)
      have t_31410 := ia_add ((20 : Int32) * x1) x2 (by omega) (by omega)
      refine wq_b (tt_fX12_at hN r3_q31405.2.1 r3_q31405.2.2.1 r3_q31405.2.2.2 (((20 : Int32) * x1) + x2) x3 ⟨by omega, by omega⟩ ⟨by omega, by omega⟩ h_r3_q31405_3) (fun r4_q31411 h_r4_q31411 => ?_)
      obtain ⟨h_r4_q31411_0, h_r4_q31411_1, h_r4_q31411_2, -⟩ := h_r4_q31411
      exact wq_s ⟨(show -1 ≤ r4_q31411.toInt ∧ r4_q31411.toInt ≤ 389 from ⟨by omega, by omega⟩), h_r3_q31405_3, trivial⟩
set_option maxHeartbeats 4000000 in
theorem tt_fX12_isHand_L5 {N : Nat} (hN : 3000000000 ≤ N) (I0 : Nat → Int32) (L0 : Int64) (M0 : Nat → Nat → Int32) (x1 : Int32) (x2 : Int32) (k_I0 : KX12 I0 M0)  : ∀ (fu : Nat) (y5_3 : Int32) (y5_4 : Int32), (0 ≤ y5_3.toInt ∧ y5_3.toInt ≤ 1) → (0 ≤ y5_4.toInt ∧ y5_4.toInt ≤ 30) → (30 - y5_4.toInt) < (fu : Int) → wq (fX12_isHand_L5 N I0 L0 M0 x1 x2 fu y5_3 y5_4) (fun r => (0 ≤ r.toInt ∧ r.toInt ≤ 1) ∧ True) := by
  intro fu
  induction fu with
  | zero => intro y5_3 y5_4 h_y5_3 h_y5_4 hm; exfalso; omega
  | succ fu ih =>
    intro y5_3 y5_4 h_y5_3 h_y5_4 hm
    rw [fX12_isHand_L5.eq_2]
    have t_31601 := KX12.i2 k_I0
    refine wq_le (fun hc_31602 => ?_) (fun hc_31603 => ?_)
    · refine wq_bz (by omega) ?_
      exact wq_s ⟨(show 0 ≤ y5_3.toInt ∧ y5_3.toInt ≤ 1 from ⟨by omega, by omega⟩), trivial⟩
    · have l_0 := il_0
      refine wq_eq (fun hc_31604 => ?_) (fun hc_31605 => ?_)
      · refine wq_in (n := 30) ⟨by omega, by omega⟩ ?_
        have b_31606 := i32b x1
        refine wq_eq (fun hc_31607 => ?_) (fun hc_31608 => ?_)
        · refine wq_in (n := 30) ⟨by omega, by omega⟩ ?_
          have b_31609 := i32b x2
          refine wq_eq (fun hc_31610 => ?_) (fun hc_31611 => ?_)
          · have l_1 := il_1
            have t_31613 := ia_add y5_4 (1 : Int32) (by omega) (by omega)
            refine wq_v (fun v4_q31612 h_v4_q31612 => ?_)
            have t_v4_q31612 := congrArg Int32.toInt h_v4_q31612
            exact ih (1 : Int32) v4_q31612 ⟨by omega, by omega⟩ ⟨by omega, by omega⟩ (by omega)
          · have l_1 := il_1
            have t_31615 := ia_add y5_4 (1 : Int32) (by omega) (by omega)
            refine wq_v (fun v3_q31614 h_v3_q31614 => ?_)
            have t_v3_q31614 := congrArg Int32.toInt h_v3_q31614
            exact ih (0 : Int32) v3_q31614 ⟨by omega, by omega⟩ ⟨by omega, by omega⟩ (by omega)
        · have l_1 := il_1
          have t_31617 := ia_add y5_4 (1 : Int32) (by omega) (by omega)
          refine wq_v (fun v2_q31616 h_v2_q31616 => ?_)
          have t_v2_q31616 := congrArg Int32.toInt h_v2_q31616
          exact ih (0 : Int32) v2_q31616 ⟨by omega, by omega⟩ ⟨by omega, by omega⟩ (by omega)
      · have l_1 := il_1
        have t_31619 := ia_add y5_4 (1 : Int32) (by omega) (by omega)
        refine wq_v (fun v1_q31618 h_v1_q31618 => ?_)
        have t_v1_q31618 := congrArg Int32.toInt h_v1_q31618
        exact ih (1 : Int32) v1_q31618 ⟨by omega, by omega⟩ ⟨by omega, by omega⟩ (by omega)
set_option maxHeartbeats 4000000 in
theorem tt_fX12_isHand {N : Nat} (hN : 3000000000 ≤ N) (I0 : Nat → Int32) (L0 : Int64) (M0 : Nat → Nat → Int32) (x1 : Int32) (x2 : Int32) (k_I0 : KX12 I0 M0) : wq (fX12_isHand N I0 L0 M0 x1 x2) (fun r => (0 ≤ r.toInt ∧ r.toInt ≤ 1) ∧ True) := by
  unfold fX12_isHand
  have b_31620 := i32b x1
  have b_31621 := i32b x2
  have l_0 := il_0
  exact tt_fX12_isHand_L5 hN I0 L0 M0 x1 x2 k_I0 N (0 : Int32) (0 : Int32) ⟨by omega, by omega⟩ ⟨by omega, by omega⟩ (by omega)
set_option maxHeartbeats 4000000 in
theorem tt_fX12_beside {N : Nat} (hN : 3000000000 ≤ N) (I0 : Nat → Int32) (L0 : Int64) (M0 : Nat → Nat → Int32) (x1 : Int32) (x2 : Int32) (h_x1 : 0 ≤ x1.toInt ∧ x1.toInt ≤ 389) (k_I0 : KX12 I0 M0) : wq (fX12_beside N I0 L0 M0 x1 x2) (fun r => (0 ≤ r.toInt ∧ r.toInt ≤ 9) ∧ True) := by
  unfold fX12_beside
  have b_31742 := i32b x2
  refine wq_eq (fun hc_31743 => ?_) (fun hc_31744 => ?_)
  · have l_0 := il_0
    exact wq_s ⟨(show 0 ≤ (0 : Int32).toInt ∧ (0 : Int32).toInt ≤ 9 from ⟨by omega, by omega⟩), trivial⟩
  · have l_30 := il_30
    have t_31745 := ia_div x1 (30 : Int32) 30 il_30 (by decide) (by omega)
    have t_31746 := i32b x2
    have t_31747 := ia_div2 x2 (30 : Int32) 30 il_30 (by decide)
    refine wq_eq (fun hc_31748 => ?_) (fun hc_31749 => ?_)
    · have t_31750 := ia_rem x1 (30 : Int32) 30 il_30 (by decide) (by omega)
      have t_31751 := ia_rem2 x2 (30 : Int32) 30 il_30 (by decide)
      refine wq_b (tt_fX12_isHand hN I0 L0 M0 (x1 - ((x1 / (30 : Int32)) * (30 : Int32))) (x2 - ((x2 / (30 : Int32)) * (30 : Int32))) k_I0) (fun r2_q31752 h_r2_q31752 => ?_)
      obtain ⟨h_r2_q31752_0, -⟩ := h_r2_q31752
      have l_0 := il_0
      refine wq_eq (fun hc_31753 => ?_) (fun hc_31754 => ?_)
      · have l_9 := il_9
        exact wq_s ⟨(show 0 ≤ (9 : Int32).toInt ∧ (9 : Int32).toInt ≤ 9 from ⟨by omega, by omega⟩), trivial⟩
      · have l_1 := il_1
        exact wq_s ⟨(show 0 ≤ (1 : Int32).toInt ∧ (1 : Int32).toInt ≤ 9 from ⟨by omega, by omega⟩), trivial⟩
    · have t_31755 := ia_rem x1 (30 : Int32) 30 il_30 (by decide) (by omega)
      have t_31756 := ia_rem2 x2 (30 : Int32) 30 il_30 (by decide)
      refine wq_eq (fun hc_31757 => ?_) (fun hc_31758 => ?_)
      · refine wq_b (tt_fX12_isHand hN I0 L0 M0 (x1 / (30 : Int32)) (x2 / (30 : Int32)) k_I0) (fun r1_q31759 h_r1_q31759 => ?_)
        obtain ⟨h_r1_q31759_0, -⟩ := h_r1_q31759
        have l_0 := il_0
        refine wq_eq (fun hc_31760 => ?_) (fun hc_31761 => ?_)
        · have l_9 := il_9
          exact wq_s ⟨(show 0 ≤ (9 : Int32).toInt ∧ (9 : Int32).toInt ≤ 9 from ⟨by omega, by omega⟩), trivial⟩
        · have l_2 := il_2
          exact wq_s ⟨(show 0 ≤ (2 : Int32).toInt ∧ (2 : Int32).toInt ≤ 9 from ⟨by omega, by omega⟩), trivial⟩
      · have l_9 := il_9
        exact wq_s ⟨(show 0 ≤ (9 : Int32).toInt ∧ (9 : Int32).toInt ≤ 9 from ⟨by omega, by omega⟩), trivial⟩
set_option maxHeartbeats 4000000 in
theorem tt_fX12_costOf {N : Nat} (hN : 3000000000 ≤ N) (I0 : Nat → Int32) (L0 : Int64) (M0 : Nat → Nat → Int32) (x1 : Int32) (x2 : Int32) (h_x1 : 0 ≤ x1.toInt ∧ x1.toInt ≤ 389) (k_I0 : KX12 I0 M0) : wq (fX12_costOf N I0 L0 M0 x1 x2) (fun r => (0 ≤ r.toInt ∧ r.toInt ≤ 9) ∧ True) := by
  unfold fX12_costOf
  have b_31786 := i32b x2
  refine wq_b (tt_fX12_beside hN I0 L0 M0 x1 x2 ⟨by omega, by omega⟩ k_I0) (fun r1_q31787 h_r1_q31787 => ?_)
  obtain ⟨h_r1_q31787_0, -⟩ := h_r1_q31787
  have l_2 := il_2
  refine wq_eq (fun hc_31788 => ?_) (fun hc_31789 => ?_)
  · have l_1 := il_1
    exact wq_s ⟨(show 0 ≤ (1 : Int32).toInt ∧ (1 : Int32).toInt ≤ 9 from ⟨by omega, by omega⟩), trivial⟩
  · exact wq_s ⟨(show 0 ≤ r1_q31787.toInt ∧ r1_q31787.toInt ≤ 9 from ⟨by omega, by omega⟩), trivial⟩
set_option maxHeartbeats 4000000 in
theorem tt_fX12_costOn_L37 {N : Nat} (hN : 3000000000 ≤ N) (I0 : Nat → Int32) (L0 : Int64) (M0 : Nat → Nat → Int32) (x1 : Int32) (x2 : Int32) (x3 : Int32) (x4 : Int32) (h_x1 : 0 ≤ x1.toInt ∧ x1.toInt ≤ 119) (h_x2 : 0 ≤ x2.toInt ∧ x2.toInt ≤ 3) (k_I0 : KX12 I0 M0)  : ∀ (fu : Nat) (y37_5 : Int32) (y37_6 : Int32), (0 ≤ y37_5.toInt ∧ y37_5.toInt ≤ 93) → (0 ≤ y37_6.toInt ∧ y37_6.toInt ≤ 7) → (y37_5.toInt ≤ 30 + 9 * y37_6.toInt) → (7 - y37_6.toInt) < (fu : Int) → wq (fX12_costOn_L37 N I0 L0 M0 x1 x2 x3 x4 fu y37_5 y37_6) (fun r => (0 ≤ r.toInt ∧ r.toInt ≤ 93) ∧ True) := by
  intro fu
  induction fu with
  | zero => intro y37_5 y37_6 h_y37_5 h_y37_6 hl_2 hm; exfalso; omega
  | succ fu ih =>
    intro y37_5 y37_6 h_y37_5 h_y37_6 hl_2 hm
    rw [fX12_costOn_L37.eq_2]
    have l_7 := il_7
    refine wq_le (fun hc_32153 => ?_) (fun hc_32154 => ?_)
    · exact wq_s ⟨(show 0 ≤ y37_5.toInt ∧ y37_5.toInt ≤ 93 from ⟨by omega, by omega⟩), trivial⟩
    · have b_32155 := i32b x4
      refine wq_lt (fun hc_32156 => ?_) (fun hc_32157 => ?_)
      · exact wq_s ⟨(show 0 ≤ y37_5.toInt ∧ y37_5.toInt ≤ 93 from ⟨by omega, by omega⟩), trivial⟩
      · refine wq_b (tt_fX12_at hN I0 L0 M0 x1 y37_6 ⟨by omega, by omega⟩ ⟨by omega, by omega⟩ k_I0) (fun r1_q32158 h_r1_q32158 => ?_)
        obtain ⟨h_r1_q32158_0, h_r1_q32158_1, h_r1_q32158_2, -⟩ := h_r1_q32158
        have l_m1 := il_m1
        refine wq_eq (fun hc_32159 => ?_) (fun hc_32160 => ?_)
        · have l_1 := il_1
          have t_32162 := ia_add y37_6 (1 : Int32) (by omega) (by omega)
          refine wq_v (fun v2_q32161 h_v2_q32161 => ?_)
          have t_v2_q32161 := congrArg Int32.toInt h_v2_q32161
          exact ih y37_5 v2_q32161 ⟨by omega, by omega⟩ ⟨by omega, by omega⟩ (by omega) (by omega)
        · refine wq_b (tt_fX12_at hN I0 L0 M0 x1 y37_6 ⟨by omega, by omega⟩ ⟨by omega, by omega⟩ k_I0) (fun r3_q32163 h_r3_q32163 => ?_)
          obtain ⟨h_r3_q32163_0, h_r3_q32163_1, h_r3_q32163_2, -⟩ := h_r3_q32163
          have b_32164 := i32b x3
          refine wq_b (tt_fX12_placeOn hN I0 L0 M0 x2 y37_6 x3 ⟨by omega, by omega⟩ ⟨by omega, by omega⟩ k_I0) (fun r4_q32165 h_r4_q32165 => ?_)
          obtain ⟨-⟩ := h_r4_q32165
          have b_32166 := i32b r4_q32165
          have l_60 := il_60
          have t_32167 := i32b r4_q32165
          have t_32168 := ia_div2 r4_q32165 (60 : Int32) 60 il_60 (by decide)
          refine wq_b (tt_fX12_costOf hN I0 L0 M0 r3_q32163 (r4_q32165 / (60 : Int32)) ⟨by omega, by omega⟩ k_I0) (fun r5_q32169 h_r5_q32169 => ?_)
          obtain ⟨h_r5_q32169_0, -⟩ := h_r5_q32169
          have t_32171 := ia_add y37_5 r5_q32169 (by omega) (by omega)
          refine wq_v (fun v6_q32170 h_v6_q32170 => ?_)
          have t_v6_q32170 := congrArg Int32.toInt h_v6_q32170
          have l_1 := il_1
          have t_32173 := ia_add y37_6 (1 : Int32) (by omega) (by omega)
          refine wq_v (fun v7_q32172 h_v7_q32172 => ?_)
          have t_v7_q32172 := congrArg Int32.toInt h_v7_q32172
          exact ih v6_q32170 v7_q32172 ⟨by omega, by omega⟩ ⟨by omega, by omega⟩ (by omega) (by omega)
set_option maxHeartbeats 4000000 in
theorem tt_fX12_costOn {N : Nat} (hN : 3000000000 ≤ N) (I0 : Nat → Int32) (L0 : Int64) (M0 : Nat → Nat → Int32) (x1 : Int32) (x2 : Int32) (x3 : Int32) (x4 : Int32) (h_x1 : 0 ≤ x1.toInt ∧ x1.toInt ≤ 119) (h_x2 : 0 ≤ x2.toInt ∧ x2.toInt ≤ 3) (k_I0 : KX12 I0 M0) : wq (fX12_costOn N I0 L0 M0 x1 x2 x3 x4) (fun r => (0 ≤ r.toInt ∧ r.toInt ≤ 93) ∧ True) := by
  unfold fX12_costOn
  have l_21 := il_21
  refine wq_b (tt_fX12_at hN I0 L0 M0 x1 (21 : Int32) ⟨by omega, by omega⟩ ⟨by omega, by omega⟩ k_I0) (fun r8_q32174 h_r8_q32174 => ?_)
  obtain ⟨h_r8_q32174_0, h_r8_q32174_1, h_r8_q32174_2, -⟩ := h_r8_q32174
  have l_m1 := il_m1
  refine wq_eq (fun hc_32175 => ?_) (fun hc_32176 => ?_)
  · unfold fX12_costOn_J31
    unfold fX12_costOn_J32
    have b_32177 := i32b x3
    have b_32178 := i32b x4
    have l_0 := il_0
    exact tt_fX12_costOn_L37 hN I0 L0 M0 x1 x2 x3 x4 ⟨by omega, by omega⟩ ⟨by omega, by omega⟩ k_I0 N (0 : Int32) (0 : Int32) ⟨by omega, by omega⟩ ⟨by omega, by omega⟩ (by omega) (by omega)
  · refine wq_b (tt_fX12_at hN I0 L0 M0 x1 (21 : Int32) ⟨by omega, by omega⟩ ⟨by omega, by omega⟩ k_I0) (fun r9b_q32179 h_r9b_q32179 => ?_)
    obtain ⟨h_r9b_q32179_0, h_r9b_q32179_1, h_r9b_q32179_2, -⟩ := h_r9b_q32179
    have b_32180 := i32b x3
    have l_365 := il_365
    have t_32181 := ia_rem2 x3 (365 : Int32) 365 il_365 (by decide)
    refine wq_eq (fun hc_32182 => ?_) (fun hc_32183 => ?_)
    · unfold fX12_costOn_J31
      unfold fX12_costOn_J32
      have b_32184 := i32b x4
      have l_0 := il_0
      exact tt_fX12_costOn_L37 hN I0 L0 M0 x1 x2 x3 x4 ⟨by omega, by omega⟩ ⟨by omega, by omega⟩ k_I0 N (0 : Int32) (0 : Int32) ⟨by omega, by omega⟩ ⟨by omega, by omega⟩ (by omega) (by omega)
    · unfold fX12_costOn_J32
      have b_32185 := i32b x4
      have l_30 := il_30
      have l_0 := il_0
      exact tt_fX12_costOn_L37 hN I0 L0 M0 x1 x2 x3 x4 ⟨by omega, by omega⟩ ⟨by omega, by omega⟩ k_I0 N (30 : Int32) (0 : Int32) ⟨by omega, by omega⟩ ⟨by omega, by omega⟩ (by omega) (by omega)
set_option maxHeartbeats 4000000 in
theorem tt_fX12_cost {N : Nat} (hN : 3000000000 ≤ N) (I0 : Nat → Int32) (L0 : Int64) (M0 : Nat → Nat → Int32) (x1 : Int32) (x2 : Int32) (x3 : Int32) (x4 : Int32) (k_I0 : KX12 I0 M0) : wq (fX12_cost N I0 L0 M0 x1 x2 x3 x4) (fun r => (0 ≤ r.1.toInt ∧ r.1.toInt ≤ 93) ∧ KX12 r.2.1 r.2.2.2 ∧ True) := by
  unfold fX12_cost
  have b_32408 := i32b x1
  have b_32409 := i32b x2
  refine wq_b (tt_fX12_isWheel hN I0 L0 M0 x1 x2 k_I0) (fun r3_q32410 h_r3_q32410 => ?_)
  obtain ⟨h_r3_q32410_0, h_r3_q32410_1, h_r3_q32410_2, h_r3_q32410_3, -⟩ := h_r3_q32410
  have t_32411 := KX12.i1 h_r3_q32410_3
  have t_32412 := KX12.i1 k_I0
  have l_0 := il_0
  refine wq_eq (fun hc_32413 => ?_) (fun hc_32414 => ?_)
  · exact wq_s ⟨(show 0 ≤ (0 : Int32).toInt ∧ (0 : Int32).toInt ≤ 93 from ⟨by omega, by omega⟩), h_r3_q32410_3, trivial⟩
  · have b_32415 := i32b x3
    have l_3 := il_3
    refine wq_b (tt_fX12_within hN x3 (0 : Int32) (3 : Int32)) (fun r4_q32416 h_r4_q32416 => ?_)
    obtain ⟨h_r4_q32416_0, h_r4_q32416_1, -⟩ := h_r4_q32416
    refine wq_eq (fun hc_32417 => ?_) (fun hc_32418 => ?_)
    · unfold fX12_cost_J34
      unfold fX12_cost_J35
      have l_1 := il_1
      refine wq_b (tt_fX12_right hN r3_q32410.2.1 r3_q32410.2.2.1 r3_q32410.2.2.2 (0 : Int32) (1 : Int32) ⟨by omega, by omega⟩ h_r3_q32410_3) (fun r1_q32419 h_r1_q32419 => ?_)
      obtain ⟨h_r1_q32419_0, h_r1_q32419_1, h_r1_q32419_2, h_r1_q32419_3, -⟩ := h_r1_q32419
      have t_32420 := KX12.i1 h_r1_q32419_3
      refine wq_eq (fun hc_32421 => ?_) (fun hc_32422 => ?_)
      · exact wq_s ⟨(show 0 ≤ (0 : Int32).toInt ∧ (0 : Int32).toInt ≤ 93 from ⟨by omega, by omega⟩), h_r1_q32419_3, trivial⟩
      · have l_20 := il_20
        have t_32423 := ia_mul (20 : Int32) (20) il_20 x1 (by omega) (by omega)
        have t_32424 := ia_add ((20 : Int32) * x1) x2 (by omega) (by omega)
        have b_32425 := i32b x4
        have l_999 := il_999
        refine wq_b (tt_fX12_costOn hN r1_q32419.2.1 r1_q32419.2.2.1 r1_q32419.2.2.2 (((20 : Int32) * x1) + x2) x3 x4 (999 : Int32) ⟨by omega, by omega⟩ ⟨by omega, by omega⟩ h_r1_q32419_3) (fun r2_q32426 h_r2_q32426 => ?_)
        obtain ⟨h_r2_q32426_0, -⟩ := h_r2_q32426
        exact wq_s ⟨(show 0 ≤ r2_q32426.toInt ∧ r2_q32426.toInt ≤ 93 from ⟨by omega, by omega⟩), h_r1_q32419_3, trivial⟩
    · have b_32427 := i32b x4
      have l_1000000 := il_1000000
      refine wq_b (tt_fX12_within hN x4 (0 : Int32) (1000000 : Int32)) (fun r5_q32428 h_r5_q32428 => ?_)
      obtain ⟨h_r5_q32428_0, h_r5_q32428_1, -⟩ := h_r5_q32428
      refine wq_eq (fun hc_32429 => ?_) (fun hc_32430 => ?_)
      · unfold fX12_cost_J34
        unfold fX12_cost_J35
        have l_1 := il_1
        refine wq_b (tt_fX12_right hN r3_q32410.2.1 r3_q32410.2.2.1 r3_q32410.2.2.2 (0 : Int32) (1 : Int32) ⟨by omega, by omega⟩ h_r3_q32410_3) (fun r1_q32431 h_r1_q32431 => ?_)
        obtain ⟨h_r1_q32431_0, h_r1_q32431_1, h_r1_q32431_2, h_r1_q32431_3, -⟩ := h_r1_q32431
        have t_32432 := KX12.i1 h_r1_q32431_3
        refine wq_eq (fun hc_32433 => ?_) (fun hc_32434 => ?_)
        · exact wq_s ⟨(show 0 ≤ (0 : Int32).toInt ∧ (0 : Int32).toInt ≤ 93 from ⟨by omega, by omega⟩), h_r1_q32431_3, trivial⟩
        · have l_20 := il_20
          have t_32435 := ia_mul (20 : Int32) (20) il_20 x1 (by omega) (by omega)
          have t_32436 := ia_add ((20 : Int32) * x1) x2 (by omega) (by omega)
          have l_999 := il_999
          refine wq_b (tt_fX12_costOn hN r1_q32431.2.1 r1_q32431.2.2.1 r1_q32431.2.2.2 (((20 : Int32) * x1) + x2) x3 x4 (999 : Int32) ⟨by omega, by omega⟩ ⟨by omega, by omega⟩ h_r1_q32431_3) (fun r2_q32437 h_r2_q32437 => ?_)
          obtain ⟨h_r2_q32437_0, -⟩ := h_r2_q32437
          exact wq_s ⟨(show 0 ≤ r2_q32437.toInt ∧ r2_q32437.toInt ≤ 93 from ⟨by omega, by omega⟩), h_r1_q32431_3, trivial⟩
      · unfold fX12_cost_J35
        have l_1 := il_1
        refine wq_b (tt_fX12_right hN r3_q32410.2.1 r3_q32410.2.2.1 r3_q32410.2.2.2 (1 : Int32) (1 : Int32) ⟨by omega, by omega⟩ h_r3_q32410_3) (fun r1_q32438 h_r1_q32438 => ?_)
        obtain ⟨h_r1_q32438_0, h_r1_q32438_1, h_r1_q32438_2, h_r1_q32438_3, -⟩ := h_r1_q32438
        have t_32439 := KX12.i1 h_r1_q32438_3
        refine wq_eq (fun hc_32440 => ?_) (fun hc_32441 => ?_)
        · exact wq_s ⟨(show 0 ≤ (0 : Int32).toInt ∧ (0 : Int32).toInt ≤ 93 from ⟨by omega, by omega⟩), h_r1_q32438_3, trivial⟩
        · have l_20 := il_20
          have t_32442 := ia_mul (20 : Int32) (20) il_20 x1 (by omega) (by omega)
          have t_32443 := ia_add ((20 : Int32) * x1) x2 (by omega) (by omega)
          have l_999 := il_999
          refine wq_b (tt_fX12_costOn hN r1_q32438.2.1 r1_q32438.2.2.1 r1_q32438.2.2.2 (((20 : Int32) * x1) + x2) x3 x4 (999 : Int32) ⟨by omega, by omega⟩ ⟨by omega, by omega⟩ h_r1_q32438_3) (fun r2_q32444 h_r2_q32444 => ?_)
          obtain ⟨h_r2_q32444_0, -⟩ := h_r2_q32444
          exact wq_s ⟨(show 0 ≤ r2_q32444.toInt ∧ r2_q32444.toInt ≤ 93 from ⟨by omega, by omega⟩), h_r1_q32438_3, trivial⟩
set_option maxHeartbeats 4000000 in
theorem tt_fX12_isSpan {N : Nat} (hN : 3000000000 ≤ N) (I0 : Nat → Int32) (L0 : Int64) (M0 : Nat → Nat → Int32) (x1 : Int32) (x2 : Int32) (k_I0 : KX12 I0 M0) : wq (fX12_isSpan N I0 L0 M0 x1 x2) (fun r => (r.1.toInt = 0 ∨ (r.1.toInt = 1 ∧ 0 ≤ x1.toInt ∧ x1.toInt ≤ 1000000 ∧ 0 ≤ x2.toInt ∧ x2.toInt ≤ 50000 ∧ x1.toInt + x2.toInt ≤ 1000000)) ∧ (r.2.1 1).toInt = (I0 1).toInt ∧ (0 ≤ r.1.toInt ∧ r.1.toInt ≤ 1) ∧ KX12 r.2.1 r.2.2.2 ∧ True) := by
  unfold fX12_isSpan
  have b_32601 := i32b x1
  have l_0 := il_0
  have l_1000000 := il_1000000
  refine wq_b (tt_fX12_within hN x1 (0 : Int32) (1000000 : Int32)) (fun r2_q32602 h_r2_q32602 => ?_)
  obtain ⟨h_r2_q32602_0, h_r2_q32602_1, -⟩ := h_r2_q32602
  have l_1 := il_1
  refine wq_b (tt_fX12_right hN I0 L0 M0 r2_q32602 (1 : Int32) ⟨by omega, by omega⟩ k_I0) (fun r3_q32603 h_r3_q32603 => ?_)
  obtain ⟨h_r3_q32603_0, h_r3_q32603_1, h_r3_q32603_2, h_r3_q32603_3, -⟩ := h_r3_q32603
  have t_32604 := KX12.i1 h_r3_q32603_3
  have t_32605 := KX12.i1 k_I0
  refine wq_eq (fun hc_32606 => ?_) (fun hc_32607 => ?_)
  · have b_32608 := i32b x2
    exact wq_s ⟨(show ((0 : Int32).toInt = 0 ∨ ((0 : Int32).toInt = 1 ∧ 0 ≤ x1.toInt ∧ x1.toInt ≤ 1000000 ∧ 0 ≤ x2.toInt ∧ x2.toInt ≤ 50000 ∧ x1.toInt + x2.toInt ≤ 1000000)) from by omega), (show (r3_q32603.2.1 1).toInt = (I0 1).toInt from by omega), (show 0 ≤ (0 : Int32).toInt ∧ (0 : Int32).toInt ≤ 1 from ⟨by omega, by omega⟩), h_r3_q32603_3, trivial⟩
  · have b_32609 := i32b x2
    have l_50000 := il_50000
    refine wq_b (tt_fX12_within hN x2 (0 : Int32) (50000 : Int32)) (fun r4_q32610 h_r4_q32610 => ?_)
    obtain ⟨h_r4_q32610_0, h_r4_q32610_1, -⟩ := h_r4_q32610
    refine wq_eq (fun hc_32611 => ?_) (fun hc_32612 => ?_)
    · unfold fX12_isSpan_J39
      have l_2 := il_2
      refine wq_b (tt_fX12_right hN r3_q32603.2.1 r3_q32603.2.2.1 r3_q32603.2.2.2 (0 : Int32) (2 : Int32) ⟨by omega, by omega⟩ h_r3_q32603_3) (fun r1_q32613 h_r1_q32613 => ?_)
      obtain ⟨h_r1_q32613_0, h_r1_q32613_1, h_r1_q32613_2, h_r1_q32613_3, -⟩ := h_r1_q32613
      have t_32614 := KX12.i1 h_r1_q32613_3
      refine wq_eq (fun hc_32615 => ?_) (fun hc_32616 => ?_)
      · exact wq_s ⟨(show ((0 : Int32).toInt = 0 ∨ ((0 : Int32).toInt = 1 ∧ 0 ≤ x1.toInt ∧ x1.toInt ≤ 1000000 ∧ 0 ≤ x2.toInt ∧ x2.toInt ≤ 50000 ∧ x1.toInt + x2.toInt ≤ 1000000)) from by omega), (show (r1_q32613.2.1 1).toInt = (I0 1).toInt from by omega), (show 0 ≤ (0 : Int32).toInt ∧ (0 : Int32).toInt ≤ 1 from ⟨by omega, by omega⟩), h_r1_q32613_3, trivial⟩
      · exact wq_s ⟨(show ((1 : Int32).toInt = 0 ∨ ((1 : Int32).toInt = 1 ∧ 0 ≤ x1.toInt ∧ x1.toInt ≤ 1000000 ∧ 0 ≤ x2.toInt ∧ x2.toInt ≤ 50000 ∧ x1.toInt + x2.toInt ≤ 1000000)) from by omega), (show (r1_q32613.2.1 1).toInt = (I0 1).toInt from by omega), (show 0 ≤ (1 : Int32).toInt ∧ (1 : Int32).toInt ≤ 1 from ⟨by omega, by omega⟩), h_r1_q32613_3, trivial⟩
    · have t_32617 := ia_add x1 x2 (by omega) (by omega)
      refine wq_lt (fun hc_32618 => ?_) (fun hc_32619 => ?_)
      · unfold fX12_isSpan_J39
        have l_2 := il_2
        refine wq_b (tt_fX12_right hN r3_q32603.2.1 r3_q32603.2.2.1 r3_q32603.2.2.2 (0 : Int32) (2 : Int32) ⟨by omega, by omega⟩ h_r3_q32603_3) (fun r1_q32620 h_r1_q32620 => ?_)
        obtain ⟨h_r1_q32620_0, h_r1_q32620_1, h_r1_q32620_2, h_r1_q32620_3, -⟩ := h_r1_q32620
        have t_32621 := KX12.i1 h_r1_q32620_3
        refine wq_eq (fun hc_32622 => ?_) (fun hc_32623 => ?_)
        · exact wq_s ⟨(show ((0 : Int32).toInt = 0 ∨ ((0 : Int32).toInt = 1 ∧ 0 ≤ x1.toInt ∧ x1.toInt ≤ 1000000 ∧ 0 ≤ x2.toInt ∧ x2.toInt ≤ 50000 ∧ x1.toInt + x2.toInt ≤ 1000000)) from by omega), (show (r1_q32620.2.1 1).toInt = (I0 1).toInt from by omega), (show 0 ≤ (0 : Int32).toInt ∧ (0 : Int32).toInt ≤ 1 from ⟨by omega, by omega⟩), h_r1_q32620_3, trivial⟩
        · exact wq_s ⟨(show ((1 : Int32).toInt = 0 ∨ ((1 : Int32).toInt = 1 ∧ 0 ≤ x1.toInt ∧ x1.toInt ≤ 1000000 ∧ 0 ≤ x2.toInt ∧ x2.toInt ≤ 50000 ∧ x1.toInt + x2.toInt ≤ 1000000)) from by omega), (show (r1_q32620.2.1 1).toInt = (I0 1).toInt from by omega), (show 0 ≤ (1 : Int32).toInt ∧ (1 : Int32).toInt ≤ 1 from ⟨by omega, by omega⟩), h_r1_q32620_3, trivial⟩
      · have l_2 := il_2
        refine wq_b (tt_fX12_right hN r3_q32603.2.1 r3_q32603.2.2.1 r3_q32603.2.2.2 (1 : Int32) (2 : Int32) ⟨by omega, by omega⟩ h_r3_q32603_3) (fun r5_q32624 h_r5_q32624 => ?_)
        obtain ⟨h_r5_q32624_0, h_r5_q32624_1, h_r5_q32624_2, h_r5_q32624_3, -⟩ := h_r5_q32624
        have t_32625 := KX12.i1 h_r5_q32624_3
        refine wq_eq (fun hc_32626 => ?_) (fun hc_32627 => ?_)
        · exact wq_s ⟨(show ((0 : Int32).toInt = 0 ∨ ((0 : Int32).toInt = 1 ∧ 0 ≤ x1.toInt ∧ x1.toInt ≤ 1000000 ∧ 0 ≤ x2.toInt ∧ x2.toInt ≤ 50000 ∧ x1.toInt + x2.toInt ≤ 1000000)) from by omega), (show (r5_q32624.2.1 1).toInt = (I0 1).toInt from by omega), (show 0 ≤ (0 : Int32).toInt ∧ (0 : Int32).toInt ≤ 1 from ⟨by omega, by omega⟩), h_r5_q32624_3, trivial⟩
        · exact wq_s ⟨(show ((1 : Int32).toInt = 0 ∨ ((1 : Int32).toInt = 1 ∧ 0 ≤ x1.toInt ∧ x1.toInt ≤ 1000000 ∧ 0 ≤ x2.toInt ∧ x2.toInt ≤ 50000 ∧ x1.toInt + x2.toInt ≤ 1000000)) from by omega), (show (r5_q32624.2.1 1).toInt = (I0 1).toInt from by omega), (show 0 ≤ (1 : Int32).toInt ∧ (1 : Int32).toInt ≤ 1 from ⟨by omega, by omega⟩), h_r5_q32624_3, trivial⟩
set_option maxHeartbeats 4000000 in
theorem tt_fX12_best_L45 {N : Nat} (hN : 3000000000 ≤ N) (x1 : Int32) (x2 : Int32) (x3 : Int32) (x4 : Int32) (x5 : Int32) (h_x1 : 0 ≤ x1.toInt ∧ x1.toInt ≤ 5) (h_x2 : 0 ≤ x2.toInt ∧ x2.toInt ≤ 19) (h_x3 : 0 ≤ x3.toInt ∧ x3.toInt ≤ 3) (h_x4 : 0 ≤ x4.toInt ∧ x4.toInt ≤ 1000000) (h_x5 : 0 ≤ x5.toInt ∧ x5.toInt ≤ 50000)  : ∀ (fu : Nat) (I0_l45 : (Nat → Int32)) (L0_l45 : Int64) (M0_l45 : (Nat → Nat → Int32)) (y45_6 : Int32) (y45_7 : Int32), (0 ≤ y45_6.toInt ∧ y45_6.toInt ≤ 999) → (0 ≤ y45_7.toInt ∧ y45_7.toInt ≤ 1050001) → (KX12 I0_l45 M0_l45) → (x4.toInt ≤ y45_7.toInt) → ((y45_6.toInt = 999 ∨ (0 ≤ (I0_l45 15).toInt ∧ (I0_l45 15).toInt ≤ y45_7.toInt - x4.toInt))) → (1050001 - y45_7.toInt) < (fu : Int) → wq (fX12_best_L45 N x1 x2 x3 x4 x5 fu I0_l45 L0_l45 M0_l45 y45_6 y45_7) (fun r => (0 ≤ r.1.toInt ∧ r.1.toInt ≤ 999) ∧ KX12 r.2.1 r.2.2.2 ∧ True) := by
  intro fu
  induction fu with
  | zero => intro I0_l45 L0_l45 M0_l45 y45_6 y45_7 h_y45_6 h_y45_7 k_I0_l45 hl_3 hl_4 hm; exfalso; omega
  | succ fu ih =>
    intro I0_l45 L0_l45 M0_l45 y45_6 y45_7 h_y45_6 h_y45_7 k_I0_l45 hl_3 hl_4 hm
    rw [fX12_best_L45.eq_2]
    have t_33062 := ia_add x4 x5 (by omega) (by omega)
    refine wq_lt (fun hc_33063 => ?_) (fun hc_33064 => ?_)
    · exact wq_s ⟨(show 0 ≤ y45_6.toInt ∧ y45_6.toInt ≤ 999 from ⟨by omega, by omega⟩), k_I0_l45, trivial⟩
    · have l_20 := il_20
      have t_33065 := ia_mul (20 : Int32) (20) il_20 x1 (by omega) (by omega)
      have t_33066 := ia_add ((20 : Int32) * x1) x2 (by omega) (by omega)
      refine wq_b (tt_fX12_costOn hN I0_l45 L0_l45 M0_l45 (((20 : Int32) * x1) + x2) x3 y45_7 y45_6 ⟨by omega, by omega⟩ ⟨by omega, by omega⟩ k_I0_l45) (fun r8_q33067 h_r8_q33067 => ?_)
      obtain ⟨h_r8_q33067_0, -⟩ := h_r8_q33067
      refine wq_le (fun hc_33068 => ?_) (fun hc_33069 => ?_)
      · refine wq_le (fun hc_33070 => ?_) (fun hc_33071 => ?_)
        · unfold fX12_best_J94
          refine wq_le (fun hc_33072 => ?_) (fun hc_33073 => ?_)
          · unfold fX12_best_J118
            refine wq_v (fun I0_5_q33074 h_I0_5_q33074 => ?_)
            have k_I0_5_q33074 : KX12 I0_5_q33074 M0_l45 := by rw [h_I0_5_q33074]; exact KX12.si15 k_I0_l45
            have l_1 := il_1
            have t_33076 := ia_add y45_7 (1 : Int32) (by omega) (by omega)
            refine wq_v (fun v6_q33075 h_v6_q33075 => ?_)
            have t_v6_q33075 := congrArg Int32.toInt h_v6_q33075
            have t_33077 := ia_add (I0_l45 15) (1 : Int32) (by omega) (by omega)
            have t_33078 : (I0_5_q33074 15).toInt = ((I0_l45 15) + (1 : Int32)).toInt := by rw [h_I0_5_q33074]; rfl
            exact ih I0_5_q33074 L0_l45 M0_l45 r8_q33067 v6_q33075 ⟨by omega, by omega⟩ ⟨by omega, by omega⟩ k_I0_5_q33074 (by omega) (by omega) (by omega)
          · refine wq_in (n := 20) ⟨by omega, by omega⟩ ?_
            refine wq_v (fun M0_7_q33079 h_M0_7_q33079 => ?_)
            have k_M0_7_q33079 : KX12 I0_l45 M0_7_q33079 := by rw [h_M0_7_q33079]; exact KX12.sm17 k_I0_l45
            unfold fX12_best_J118
            refine wq_v (fun I0_5_q33080 h_I0_5_q33080 => ?_)
            have k_I0_5_q33080 : KX12 I0_5_q33080 M0_7_q33079 := by rw [h_I0_5_q33080]; exact KX12.si15 k_M0_7_q33079
            have l_1 := il_1
            have t_33082 := ia_add y45_7 (1 : Int32) (by omega) (by omega)
            refine wq_v (fun v6_q33081 h_v6_q33081 => ?_)
            have t_v6_q33081 := congrArg Int32.toInt h_v6_q33081
            have t_33083 := ia_add (I0_l45 15) (1 : Int32) (by omega) (by omega)
            have t_33084 : (I0_5_q33080 15).toInt = ((I0_l45 15) + (1 : Int32)).toInt := by rw [h_I0_5_q33080]; rfl
            exact ih I0_5_q33080 L0_l45 M0_7_q33079 r8_q33067 v6_q33081 ⟨by omega, by omega⟩ ⟨by omega, by omega⟩ k_I0_5_q33080 (by omega) (by omega) (by omega)
        · refine wq_v (fun I0_9_q33085 h_I0_9_q33085 => ?_)
          have k_I0_9_q33085 : KX12 I0_9_q33085 M0_l45 := by rw [h_I0_9_q33085]; exact KX12.si15 k_I0_l45
          unfold fX12_best_J94
          have l_0 := il_0
          have t_33086 : (I0_9_q33085 15).toInt = (0 : Int32).toInt := by rw [h_I0_9_q33085]; rfl
          refine wq_le (fun hc_33087 => ?_) (fun hc_33088 => ?_)
          · exfalso; omega
          · refine wq_in (n := 20) ⟨by omega, by omega⟩ ?_
            refine wq_v (fun M0_7_q33089 h_M0_7_q33089 => ?_)
            have k_M0_7_q33089 : KX12 I0_9_q33085 M0_7_q33089 := by rw [h_M0_7_q33089]; exact KX12.sm17 k_I0_9_q33085
            unfold fX12_best_J118
            refine wq_v (fun I0_5_q33090 h_I0_5_q33090 => ?_)
            have k_I0_5_q33090 : KX12 I0_5_q33090 M0_7_q33089 := by rw [h_I0_5_q33090]; exact KX12.si15 k_M0_7_q33089
            have l_1 := il_1
            have t_33092 := ia_add y45_7 (1 : Int32) (by omega) (by omega)
            refine wq_v (fun v6_q33091 h_v6_q33091 => ?_)
            have t_v6_q33091 := congrArg Int32.toInt h_v6_q33091
            have t_33093 := ia_add (I0_9_q33085 15) (1 : Int32) (by omega) (by omega)
            have t_33094 : (I0_5_q33090 15).toInt = ((I0_9_q33085 15) + (1 : Int32)).toInt := by rw [h_I0_5_q33090]; rfl
            exact ih I0_5_q33090 L0_l45 M0_7_q33089 r8_q33067 v6_q33091 ⟨by omega, by omega⟩ ⟨by omega, by omega⟩ k_I0_5_q33090 (by omega) (by omega) (by omega)
      · have l_1 := il_1
        have t_33096 := ia_add y45_7 (1 : Int32) (by omega) (by omega)
        refine wq_v (fun v10_q33095 h_v10_q33095 => ?_)
        have t_v10_q33095 := congrArg Int32.toInt h_v10_q33095
        exact ih I0_l45 L0_l45 M0_l45 y45_6 v10_q33095 ⟨by omega, by omega⟩ ⟨by omega, by omega⟩ k_I0_l45 (by omega) (by omega) (by omega)
set_option maxHeartbeats 4000000 in
theorem tt_fX12_best {N : Nat} (hN : 3000000000 ≤ N) (I0 : Nat → Int32) (L0 : Int64) (M0 : Nat → Nat → Int32) (x1 : Int32) (x2 : Int32) (x3 : Int32) (x4 : Int32) (x5 : Int32) (k_I0 : KX12 I0 M0) : wq (fX12_best N I0 L0 M0 x1 x2 x3 x4 x5) (fun r => (0 ≤ r.1.toInt ∧ r.1.toInt ≤ 999) ∧ KX12 r.2.1 r.2.2.2 ∧ True) := by
  unfold fX12_best
  have b_33097 := i32b x1
  have b_33098 := i32b x2
  refine wq_b (tt_fX12_isWheel hN I0 L0 M0 x1 x2 k_I0) (fun r1_q33099 h_r1_q33099 => ?_)
  obtain ⟨h_r1_q33099_0, h_r1_q33099_1, h_r1_q33099_2, h_r1_q33099_3, -⟩ := h_r1_q33099
  have t_33100 := KX12.i1 h_r1_q33099_3
  have t_33101 := KX12.i1 k_I0
  have l_0 := il_0
  refine wq_eq (fun hc_33102 => ?_) (fun hc_33103 => ?_)
  · exact wq_s ⟨(show 0 ≤ (0 : Int32).toInt ∧ (0 : Int32).toInt ≤ 999 from ⟨by omega, by omega⟩), h_r1_q33099_3, trivial⟩
  · have b_33104 := i32b x3
    have l_3 := il_3
    refine wq_b (tt_fX12_within hN x3 (0 : Int32) (3 : Int32)) (fun r2_q33105 h_r2_q33105 => ?_)
    obtain ⟨h_r2_q33105_0, h_r2_q33105_1, -⟩ := h_r2_q33105
    have l_1 := il_1
    refine wq_b (tt_fX12_right hN r1_q33099.2.1 r1_q33099.2.2.1 r1_q33099.2.2.2 r2_q33105 (1 : Int32) ⟨by omega, by omega⟩ h_r1_q33099_3) (fun r3_q33106 h_r3_q33106 => ?_)
    obtain ⟨h_r3_q33106_0, h_r3_q33106_1, h_r3_q33106_2, h_r3_q33106_3, -⟩ := h_r3_q33106
    have t_33107 := KX12.i1 h_r3_q33106_3
    refine wq_eq (fun hc_33108 => ?_) (fun hc_33109 => ?_)
    · exact wq_s ⟨(show 0 ≤ (0 : Int32).toInt ∧ (0 : Int32).toInt ≤ 999 from ⟨by omega, by omega⟩), h_r3_q33106_3, trivial⟩
    · have b_33110 := i32b x4
      have b_33111 := i32b x5
      refine wq_b (tt_fX12_isSpan hN r3_q33106.2.1 r3_q33106.2.2.1 r3_q33106.2.2.2 x4 x5 h_r3_q33106_3) (fun r4_q33112 h_r4_q33112 => ?_)
      obtain ⟨h_r4_q33112_0, h_r4_q33112_1, h_r4_q33112_2, h_r4_q33112_3, -⟩ := h_r4_q33112
      have t_33113 := KX12.i1 h_r4_q33112_3
      refine wq_eq (fun hc_33114 => ?_) (fun hc_33115 => ?_)
      · exact wq_s ⟨(show 0 ≤ (0 : Int32).toInt ∧ (0 : Int32).toInt ≤ 999 from ⟨by omega, by omega⟩), h_r4_q33112_3, trivial⟩
      · have l_999 := il_999
        exact tt_fX12_best_L45 hN x1 x2 x3 x4 x5 ⟨by omega, by omega⟩ ⟨by omega, by omega⟩ ⟨by omega, by omega⟩ ⟨by omega, by omega⟩ ⟨by omega, by omega⟩ N r4_q33112.2.1 r4_q33112.2.2.1 r4_q33112.2.2.2 (999 : Int32) x4 ⟨by omega, by omega⟩ ⟨by omega, by omega⟩ h_r4_q33112_3 (by omega) (by omega) (by omega)
set_option maxHeartbeats 4000000 in
theorem tt_fX12_day {N : Nat} (hN : 3000000000 ≤ N) (I0 : Nat → Int32) (L0 : Int64) (M0 : Nat → Nat → Int32) (x1 : Int32) (k_I0 : KX12 I0 M0) : wq (fX12_day N I0 L0 M0 x1) (fun r => KX12 r.2.1 r.2.2.2 ∧ True) := by
  unfold fX12_day
  refine wq_v (fun I0_2_q33428 h_I0_2_q33428 => ?_)
  have k_I0_2_q33428 : KX12 I0_2_q33428 M0 := by rw [h_I0_2_q33428]; exact KX12.si0 k_I0
  have t_33429 : (I0_2_q33428 15).toInt = (I0 15).toInt := by rw [h_I0_2_q33428]; rfl
  have l_m1 := il_m1
  refine wq_eq (fun hc_33430 => ?_) (fun hc_33431 => ?_)
  · unfold fX12_day_J37
    unfold fX12_day_J38
    have l_0 := il_0
    have l_1 := il_1
    refine wq_b (tt_fX12_right hN I0_2_q33428 L0 M0 (0 : Int32) (1 : Int32) ⟨by omega, by omega⟩ k_I0_2_q33428) (fun r1_q33432 h_r1_q33432 => ?_)
    obtain ⟨h_r1_q33432_0, h_r1_q33432_1, h_r1_q33432_2, h_r1_q33432_3, -⟩ := h_r1_q33432
    have t_33433 := KX12.i1 h_r1_q33432_3
    have t_33434 := KX12.i1 k_I0
    have t_33435 : (I0_2_q33428 1).toInt = (I0 1).toInt := by rw [h_I0_2_q33428]; rfl
    refine wq_eq (fun hc_33436 => ?_) (fun hc_33437 => ?_)
    · exact wq_s ⟨h_r1_q33432_3, trivial⟩
    · have b_33438 := i32b x1
      refine wq_eq (fun hc_33439 => ?_) (fun hc_33440 => ?_)
      · exact wq_s ⟨h_r1_q33432_3, trivial⟩
      · refine wq_in (n := 20) ⟨by omega, by omega⟩ ?_
        exact wq_s ⟨h_r1_q33432_3, trivial⟩
  · have b_33441 := i32b x1
    refine wq_lt (fun hc_33442 => ?_) (fun hc_33443 => ?_)
    · unfold fX12_day_J37
      unfold fX12_day_J38
      have l_0 := il_0
      have l_1 := il_1
      refine wq_b (tt_fX12_right hN I0_2_q33428 L0 M0 (0 : Int32) (1 : Int32) ⟨by omega, by omega⟩ k_I0_2_q33428) (fun r1_q33444 h_r1_q33444 => ?_)
      obtain ⟨h_r1_q33444_0, h_r1_q33444_1, h_r1_q33444_2, h_r1_q33444_3, -⟩ := h_r1_q33444
      have t_33445 := KX12.i1 h_r1_q33444_3
      have t_33446 := KX12.i1 k_I0
      have t_33447 : (I0_2_q33428 1).toInt = (I0 1).toInt := by rw [h_I0_2_q33428]; rfl
      refine wq_eq (fun hc_33448 => ?_) (fun hc_33449 => ?_)
      · exact wq_s ⟨h_r1_q33444_3, trivial⟩
      · refine wq_eq (fun hc_33450 => ?_) (fun hc_33451 => ?_)
        · exfalso; omega
        · refine wq_in (n := 20) ⟨by omega, by omega⟩ ?_
          exact wq_s ⟨h_r1_q33444_3, trivial⟩
    · refine wq_le (fun hc_33452 => ?_) (fun hc_33453 => ?_)
      · unfold fX12_day_J37
        unfold fX12_day_J38
        have l_0 := il_0
        have l_1 := il_1
        refine wq_b (tt_fX12_right hN I0_2_q33428 L0 M0 (0 : Int32) (1 : Int32) ⟨by omega, by omega⟩ k_I0_2_q33428) (fun r1_q33454 h_r1_q33454 => ?_)
        obtain ⟨h_r1_q33454_0, h_r1_q33454_1, h_r1_q33454_2, h_r1_q33454_3, -⟩ := h_r1_q33454
        have t_33455 := KX12.i1 h_r1_q33454_3
        have t_33456 := KX12.i1 k_I0
        have t_33457 : (I0_2_q33428 1).toInt = (I0 1).toInt := by rw [h_I0_2_q33428]; rfl
        refine wq_eq (fun hc_33458 => ?_) (fun hc_33459 => ?_)
        · exact wq_s ⟨h_r1_q33454_3, trivial⟩
        · refine wq_eq (fun hc_33460 => ?_) (fun hc_33461 => ?_)
          · exact wq_s ⟨h_r1_q33454_3, trivial⟩
          · refine wq_in (n := 20) ⟨by omega, by omega⟩ ?_
            exact wq_s ⟨h_r1_q33454_3, trivial⟩
      · have l_20 := il_20
        refine wq_le (fun hc_33462 => ?_) (fun hc_33463 => ?_)
        · unfold fX12_day_J37
          unfold fX12_day_J38
          have l_0 := il_0
          have l_1 := il_1
          refine wq_b (tt_fX12_right hN I0_2_q33428 L0 M0 (0 : Int32) (1 : Int32) ⟨by omega, by omega⟩ k_I0_2_q33428) (fun r1_q33464 h_r1_q33464 => ?_)
          obtain ⟨h_r1_q33464_0, h_r1_q33464_1, h_r1_q33464_2, h_r1_q33464_3, -⟩ := h_r1_q33464
          have t_33465 := KX12.i1 h_r1_q33464_3
          have t_33466 := KX12.i1 k_I0
          have t_33467 : (I0_2_q33428 1).toInt = (I0 1).toInt := by rw [h_I0_2_q33428]; rfl
          refine wq_eq (fun hc_33468 => ?_) (fun hc_33469 => ?_)
          · exact wq_s ⟨h_r1_q33464_3, trivial⟩
          · refine wq_eq (fun hc_33470 => ?_) (fun hc_33471 => ?_)
            · exfalso; omega
            · refine wq_in (n := 20) ⟨by omega, by omega⟩ ?_
              exact wq_s ⟨h_r1_q33464_3, trivial⟩
        · unfold fX12_day_J38
          have l_1 := il_1
          refine wq_b (tt_fX12_right hN I0_2_q33428 L0 M0 (1 : Int32) (1 : Int32) ⟨by omega, by omega⟩ k_I0_2_q33428) (fun r1_q33472 h_r1_q33472 => ?_)
          obtain ⟨h_r1_q33472_0, h_r1_q33472_1, h_r1_q33472_2, h_r1_q33472_3, -⟩ := h_r1_q33472
          have t_33473 := KX12.i1 h_r1_q33472_3
          have t_33474 := KX12.i1 k_I0
          have t_33475 : (I0_2_q33428 1).toInt = (I0 1).toInt := by rw [h_I0_2_q33428]; rfl
          have l_0 := il_0
          refine wq_eq (fun hc_33476 => ?_) (fun hc_33477 => ?_)
          · exact wq_s ⟨h_r1_q33472_3, trivial⟩
          · refine wq_eq (fun hc_33478 => ?_) (fun hc_33479 => ?_)
            · exact wq_s ⟨h_r1_q33472_3, trivial⟩
            · refine wq_in (n := 20) ⟨by omega, by omega⟩ ?_
              exact wq_s ⟨h_r1_q33472_3, trivial⟩
set_option maxHeartbeats 4000000 in
theorem tt_fX12_whose_L64 {N : Nat} (hN : 3000000000 ≤ N) (x1 : Int32) (x2 : Int32) (x3 : Int32) (x4 : Int32) (x5 : Int32) (y50_6 : Int32) (y50_7 : Int32) (y50_8 : Int32) (y50_9 : Int32) (g50 : (Nat → Int32) → Int64 → (Nat → Nat → Int32) → Int32 → Int32 → Int32 → Int32 → Option (Int32 × (Nat → Int32) × Int64 × (Nat → Nat → Int32))) (h_x1 : 0 ≤ x1.toInt ∧ x1.toInt ≤ 5) (h_x2 : 0 ≤ x2.toInt ∧ x2.toInt ≤ 19) (h_x3 : 0 ≤ x3.toInt ∧ x3.toInt ≤ 1000000) (h_x4 : 0 ≤ x4.toInt ∧ x4.toInt ≤ 50000) (h_x5 : 0 ≤ x5.toInt ∧ x5.toInt ≤ 2) (h_y50_6 : 0 ≤ y50_6.toInt ∧ y50_6.toInt ≤ 999) (h_y50_7 : -1 ≤ y50_7.toInt ∧ y50_7.toInt ≤ 3) (h_y50_9 : 0 ≤ y50_9.toInt ∧ y50_9.toInt ≤ 3) (hg50 : ∀ (q0 : (Nat → Int32)) (q1 : Int64) (q2 : (Nat → Nat → Int32)) (q3 : Int32) (q4 : Int32) (q5 : Int32) (q6 : Int32), (0 ≤ q3.toInt ∧ q3.toInt ≤ 999) → (-1 ≤ q4.toInt ∧ q4.toInt ≤ 3) → (0 ≤ q6.toInt ∧ q6.toInt ≤ 4) → (KX12 q0 q2) → (y50_9.toInt < q6.toInt) → wq (g50 q0 q1 q2 q3 q4 q5 q6) (fun r => KX12 r.2.1 r.2.2.2 ∧ True)) : ∀ (fu : Nat) (I0_l64 : (Nat → Int32)) (L0_l64 : Int64) (M0_l64 : (Nat → Nat → Int32)) (y64_10 : Int32) (y64_11 : Int32), (0 ≤ y64_10.toInt ∧ y64_10.toInt ≤ 999) → (0 ≤ y64_11.toInt ∧ y64_11.toInt ≤ 1050001) → (KX12 I0_l64 M0_l64) → (1050001 - y64_11.toInt) < (fu : Int) → wq (fX12_whose_L64 N x1 x2 x3 x4 x5 y50_6 y50_7 y50_8 y50_9 g50 fu I0_l64 L0_l64 M0_l64 y64_10 y64_11) (fun r => KX12 r.2.1 r.2.2.2 ∧ True) := by
  intro fu
  induction fu with
  | zero => intro I0_l64 L0_l64 M0_l64 y64_10 y64_11 h_y64_10 h_y64_11 k_I0_l64 hm; exfalso; omega
  | succ fu ih =>
    intro I0_l64 L0_l64 M0_l64 y64_10 y64_11 h_y64_10 h_y64_11 k_I0_l64 hm
    rw [fX12_whose_L64.eq_2]
    have t_34850 := ia_add x3 x4 (by omega) (by omega)
    refine wq_lt (fun hc_34851 => ?_) (fun hc_34852 => ?_)
    · refine wq_le (fun hc_34853 => ?_) (fun hc_34854 => ?_)
      · refine wq_le (fun hc_34855 => ?_) (fun hc_34856 => ?_)
        · unfold fX12_whose_J138
          refine wq_le (fun hc_34857 => ?_) (fun hc_34858 => ?_)
          · have l_1 := il_1
            have t_34860 := ia_add y50_9 (1 : Int32) (by omega) (by omega)
            refine wq_v (fun v5_q34859 h_v5_q34859 => ?_)
            have t_v5_q34859 := congrArg Int32.toInt h_v5_q34859
            have b_34861 := i32b y50_8
            exact hg50 I0_l64 L0_l64 M0_l64 y64_10 y50_7 (y50_8 + (1 : Int32)) v5_q34859 ⟨by omega, by omega⟩ ⟨by omega, by omega⟩ ⟨by omega, by omega⟩ k_I0_l64 (by omega)
          · have l_1 := il_1
            have t_34863 := ia_add y50_9 (1 : Int32) (by omega) (by omega)
            refine wq_v (fun v6_q34862 h_v6_q34862 => ?_)
            have t_v6_q34862 := congrArg Int32.toInt h_v6_q34862
            have b_34864 := i32b y50_8
            exact hg50 I0_l64 L0_l64 M0_l64 y64_10 y50_9 (y50_8 + (1 : Int32)) v6_q34862 ⟨by omega, by omega⟩ ⟨by omega, by omega⟩ ⟨by omega, by omega⟩ k_I0_l64 (by omega)
        · unfold fX12_whose_J138
          refine wq_le (fun hc_34865 => ?_) (fun hc_34866 => ?_)
          · have l_1 := il_1
            have t_34868 := ia_add y50_9 (1 : Int32) (by omega) (by omega)
            refine wq_v (fun v5_q34867 h_v5_q34867 => ?_)
            have t_v5_q34867 := congrArg Int32.toInt h_v5_q34867
            exact hg50 I0_l64 L0_l64 M0_l64 y64_10 y50_7 (1 : Int32) v5_q34867 ⟨by omega, by omega⟩ ⟨by omega, by omega⟩ ⟨by omega, by omega⟩ k_I0_l64 (by omega)
          · have l_1 := il_1
            have t_34870 := ia_add y50_9 (1 : Int32) (by omega) (by omega)
            refine wq_v (fun v6_q34869 h_v6_q34869 => ?_)
            have t_v6_q34869 := congrArg Int32.toInt h_v6_q34869
            exact hg50 I0_l64 L0_l64 M0_l64 y64_10 y50_9 (1 : Int32) v6_q34869 ⟨by omega, by omega⟩ ⟨by omega, by omega⟩ ⟨by omega, by omega⟩ k_I0_l64 (by omega)
      · have l_1 := il_1
        have t_34872 := ia_add y50_9 (1 : Int32) (by omega) (by omega)
        refine wq_v (fun v7_q34871 h_v7_q34871 => ?_)
        have t_v7_q34871 := congrArg Int32.toInt h_v7_q34871
        have b_34873 := i32b y50_8
        exact hg50 I0_l64 L0_l64 M0_l64 y50_6 y50_7 y50_8 v7_q34871 ⟨by omega, by omega⟩ ⟨by omega, by omega⟩ ⟨by omega, by omega⟩ k_I0_l64 (by omega)
    · have l_20 := il_20
      have t_34874 := ia_mul (20 : Int32) (20) il_20 x1 (by omega) (by omega)
      have t_34875 := ia_add ((20 : Int32) * x1) x2 (by omega) (by omega)
      refine wq_b (tt_fX12_costOn hN I0_l64 L0_l64 M0_l64 (((20 : Int32) * x1) + x2) y50_9 y64_11 y64_10 ⟨by omega, by omega⟩ ⟨by omega, by omega⟩ k_I0_l64) (fun r8_q34876 h_r8_q34876 => ?_)
      obtain ⟨h_r8_q34876_0, -⟩ := h_r8_q34876
      refine wq_le (fun hc_34877 => ?_) (fun hc_34878 => ?_)
      · have l_1 := il_1
        have t_34880 := ia_add y64_11 (1 : Int32) (by omega) (by omega)
        refine wq_v (fun v9_q34879 h_v9_q34879 => ?_)
        have t_v9_q34879 := congrArg Int32.toInt h_v9_q34879
        exact ih I0_l64 L0_l64 M0_l64 y64_10 v9_q34879 ⟨by omega, by omega⟩ ⟨by omega, by omega⟩ k_I0_l64 (by omega)
      · have l_1 := il_1
        have t_34882 := ia_add y64_11 (1 : Int32) (by omega) (by omega)
        refine wq_v (fun v10_q34881 h_v10_q34881 => ?_)
        have t_v10_q34881 := congrArg Int32.toInt h_v10_q34881
        exact ih I0_l64 L0_l64 M0_l64 r8_q34876 v10_q34881 ⟨by omega, by omega⟩ ⟨by omega, by omega⟩ k_I0_l64 (by omega)
set_option maxHeartbeats 4000000 in
theorem tt_fX12_whose_L50 {N : Nat} (hN : 3000000000 ≤ N) (x1 : Int32) (x2 : Int32) (x3 : Int32) (x4 : Int32) (x5 : Int32) (h_x1 : 0 ≤ x1.toInt ∧ x1.toInt ≤ 5) (h_x2 : 0 ≤ x2.toInt ∧ x2.toInt ≤ 19) (h_x3 : 0 ≤ x3.toInt ∧ x3.toInt ≤ 1000000) (h_x4 : 0 ≤ x4.toInt ∧ x4.toInt ≤ 50000) (h_x5 : 0 ≤ x5.toInt ∧ x5.toInt ≤ 2)  : ∀ (fu : Nat) (I0_l50 : (Nat → Int32)) (L0_l50 : Int64) (M0_l50 : (Nat → Nat → Int32)) (y50_6 : Int32) (y50_7 : Int32) (y50_8 : Int32) (y50_9 : Int32), (0 ≤ y50_6.toInt ∧ y50_6.toInt ≤ 999) → (-1 ≤ y50_7.toInt ∧ y50_7.toInt ≤ 3) → (0 ≤ y50_9.toInt ∧ y50_9.toInt ≤ 4) → (KX12 I0_l50 M0_l50) → (4 - y50_9.toInt) < (fu : Int) → wq (fX12_whose_L50 N x1 x2 x3 x4 x5 fu I0_l50 L0_l50 M0_l50 y50_6 y50_7 y50_8 y50_9) (fun r => KX12 r.2.1 r.2.2.2 ∧ True) := by
  intro fu
  induction fu with
  | zero => intro I0_l50 L0_l50 M0_l50 y50_6 y50_7 y50_8 y50_9 h_y50_6 h_y50_7 h_y50_9 k_I0_l50 hm; exfalso; omega
  | succ fu ih =>
    intro I0_l50 L0_l50 M0_l50 y50_6 y50_7 y50_8 y50_9 h_y50_6 h_y50_7 h_y50_9 k_I0_l50 hm
    rw [fX12_whose_L50.eq_2]
    have l_4 := il_4
    refine wq_le (fun hc_34883 => ?_) (fun hc_34884 => ?_)
    · have l_0 := il_0
      refine wq_eq (fun hc_34885 => ?_) (fun hc_34886 => ?_)
      · exact wq_s ⟨k_I0_l50, trivial⟩
      · have l_1 := il_1
        refine wq_eq (fun hc_34887 => ?_) (fun hc_34888 => ?_)
        · exact wq_s ⟨k_I0_l50, trivial⟩
        · have b_34889 := i32b y50_8
          exact wq_s ⟨k_I0_l50, trivial⟩
    · have b_34890 := i32b y50_8
      have l_999 := il_999
      exact tt_fX12_whose_L64 hN x1 x2 x3 x4 x5 y50_6 y50_7 y50_8 y50_9 _ ⟨by omega, by omega⟩ ⟨by omega, by omega⟩ ⟨by omega, by omega⟩ ⟨by omega, by omega⟩ ⟨by omega, by omega⟩ ⟨by omega, by omega⟩ ⟨by omega, by omega⟩ ⟨by omega, by omega⟩ (fun q0 q1 q2 q3 q4 q5 q6 hq0 hq1 hq2 hq3 hq4 => ih q0 q1 q2 q3 q4 q5 q6 hq0 hq1 hq2 hq3 (by omega)) N I0_l50 L0_l50 M0_l50 (999 : Int32) x3 ⟨by omega, by omega⟩ ⟨by omega, by omega⟩ k_I0_l50 (by omega)
set_option maxHeartbeats 4000000 in
theorem tt_fX12_whose {N : Nat} (hN : 3000000000 ≤ N) (I0 : Nat → Int32) (L0 : Int64) (M0 : Nat → Nat → Int32) (x1 : Int32) (x2 : Int32) (x3 : Int32) (x4 : Int32) (x5 : Int32) (k_I0 : KX12 I0 M0) : wq (fX12_whose N I0 L0 M0 x1 x2 x3 x4 x5) (fun r => KX12 r.2.1 r.2.2.2 ∧ True) := by
  unfold fX12_whose
  have b_34891 := i32b x1
  have b_34892 := i32b x2
  refine wq_b (tt_fX12_isWheel hN I0 L0 M0 x1 x2 k_I0) (fun r1_q34893 h_r1_q34893 => ?_)
  obtain ⟨h_r1_q34893_0, h_r1_q34893_1, h_r1_q34893_2, h_r1_q34893_3, -⟩ := h_r1_q34893
  have t_34894 := KX12.i1 h_r1_q34893_3
  have t_34895 := KX12.i1 k_I0
  have l_0 := il_0
  refine wq_eq (fun hc_34896 => ?_) (fun hc_34897 => ?_)
  · exact wq_s ⟨h_r1_q34893_3, trivial⟩
  · have b_34898 := i32b x5
    have l_2 := il_2
    refine wq_b (tt_fX12_within hN x5 (0 : Int32) (2 : Int32)) (fun r2_q34899 h_r2_q34899 => ?_)
    obtain ⟨h_r2_q34899_0, h_r2_q34899_1, -⟩ := h_r2_q34899
    have l_1 := il_1
    refine wq_b (tt_fX12_right hN r1_q34893.2.1 r1_q34893.2.2.1 r1_q34893.2.2.2 r2_q34899 (1 : Int32) ⟨by omega, by omega⟩ h_r1_q34893_3) (fun r3_q34900 h_r3_q34900 => ?_)
    obtain ⟨h_r3_q34900_0, h_r3_q34900_1, h_r3_q34900_2, h_r3_q34900_3, -⟩ := h_r3_q34900
    have t_34901 := KX12.i1 h_r3_q34900_3
    refine wq_eq (fun hc_34902 => ?_) (fun hc_34903 => ?_)
    · exact wq_s ⟨h_r3_q34900_3, trivial⟩
    · have b_34904 := i32b x3
      have b_34905 := i32b x4
      refine wq_b (tt_fX12_isSpan hN r3_q34900.2.1 r3_q34900.2.2.1 r3_q34900.2.2.2 x3 x4 h_r3_q34900_3) (fun r4_q34906 h_r4_q34906 => ?_)
      obtain ⟨h_r4_q34906_0, h_r4_q34906_1, h_r4_q34906_2, h_r4_q34906_3, -⟩ := h_r4_q34906
      have t_34907 := KX12.i1 h_r4_q34906_3
      refine wq_eq (fun hc_34908 => ?_) (fun hc_34909 => ?_)
      · exact wq_s ⟨h_r4_q34906_3, trivial⟩
      · have l_999 := il_999
        have l_m1 := il_m1
        exact tt_fX12_whose_L50 hN x1 x2 x3 x4 x5 ⟨by omega, by omega⟩ ⟨by omega, by omega⟩ ⟨by omega, by omega⟩ ⟨by omega, by omega⟩ ⟨by omega, by omega⟩ N r4_q34906.2.1 r4_q34906.2.2.1 r4_q34906.2.2.2 (999 : Int32) ((-1) : Int32) (0 : Int32) (0 : Int32) ⟨by omega, by omega⟩ ⟨by omega, by omega⟩ ⟨by omega, by omega⟩ h_r4_q34906_3 (by omega)
set_option maxHeartbeats 4000000 in
theorem tt_fX12_isMixed_L41 {N : Nat} (hN : 3000000000 ≤ N) (I0 : Nat → Int32) (L0 : Int64) (M0 : Nat → Nat → Int32) (x1 : Int32) (x2 : Int32) (y9_3 : Int32) (y9_5 : Int32) (g9 : Int32 → Int32 → Int32 → Option (Int32)) (h_x1 : 0 ≤ x1.toInt ∧ x1.toInt ≤ 119) (h_y9_5 : 0 ≤ y9_5.toInt ∧ y9_5.toInt ≤ 6) (k_I0 : KX12 I0 M0) (hg9 : ∀ (q0 : Int32) (q1 : Int32) (q2 : Int32), (0 ≤ q1.toInt ∧ q1.toInt ≤ 1) → (0 ≤ q2.toInt ∧ q2.toInt ≤ 7) → (y9_5.toInt < q2.toInt) → wq (g9 q0 q1 q2) (fun r => (0 ≤ r.toInt ∧ r.toInt ≤ 1) ∧ True)) : ∀ (fu : Nat) (y41_6 : Int32) (y41_7 : Int32), (0 ≤ y41_6.toInt ∧ y41_6.toInt ≤ 255) → (0 ≤ y41_7.toInt ∧ y41_7.toInt ≤ 4) → (4 - y41_7.toInt) < (fu : Int) → wq (fX12_isMixed_L41 N I0 L0 M0 x1 x2 y9_3 y9_5 g9 fu y41_6 y41_7) (fun r => (0 ≤ r.toInt ∧ r.toInt ≤ 1) ∧ True) := by
  intro fu
  induction fu with
  | zero => intro y41_6 y41_7 h_y41_6 h_y41_7 hm; exfalso; omega
  | succ fu ih =>
    intro y41_6 y41_7 h_y41_6 h_y41_7 hm
    rw [fX12_isMixed_L41.eq_2]
    have l_4 := il_4
    refine wq_le (fun hc_35404 => ?_) (fun hc_35405 => ?_)
    · refine wq_v (fun v2_q35406 h_v2_q35406 => ?_)
      have t_v2_q35406 := congrArg Int32.toInt h_v2_q35406
      have l_0 := il_0
      refine wq_eq (fun hc_35407 => ?_) (fun hc_35408 => ?_)
      · have l_1 := il_1
        have t_35410 := ia_add y9_5 (1 : Int32) (by omega) (by omega)
        refine wq_v (fun v3_q35409 h_v3_q35409 => ?_)
        have t_v3_q35409 := congrArg Int32.toInt h_v3_q35409
        have b_35411 := i32b v2_q35406
        exact hg9 v2_q35406 (0 : Int32) v3_q35409 ⟨by omega, by omega⟩ ⟨by omega, by omega⟩ (by omega)
      · have l_1 := il_1
        have t_35413 := ia_add y9_5 (1 : Int32) (by omega) (by omega)
        refine wq_v (fun v4_q35412 h_v4_q35412 => ?_)
        have t_v4_q35412 := congrArg Int32.toInt h_v4_q35412
        have b_35414 := i32b v2_q35406
        exact hg9 v2_q35406 (1 : Int32) v4_q35412 ⟨by omega, by omega⟩ ⟨by omega, by omega⟩ (by omega)
    · have b_35415 := i32b x2
      refine wq_b (tt_fX12_placeOn hN I0 L0 M0 y41_7 y9_5 x2 ⟨by omega, by omega⟩ ⟨by omega, by omega⟩ k_I0) (fun r5_q35416 h_r5_q35416 => ?_)
      obtain ⟨-⟩ := h_r5_q35416
      refine wq_b (tt_fX12_at hN I0 L0 M0 x1 y9_5 ⟨by omega, by omega⟩ ⟨by omega, by omega⟩ k_I0) (fun r6_q35417 h_r6_q35417 => ?_)
      obtain ⟨h_r6_q35417_0, h_r6_q35417_1, h_r6_q35417_2, -⟩ := h_r6_q35417
      have b_35418 := i32b r5_q35416
      have l_60 := il_60
      have t_35419 := i32b r5_q35416
      have t_35420 := ia_div2 r5_q35416 (60 : Int32) 60 il_60 (by decide)
      refine wq_eq (fun hc_35421 => ?_) (fun hc_35422 => ?_)
      · have t_35424 := or_sh y41_6 y41_7 ⟨by omega, by omega⟩ ⟨by omega, by omega⟩
        refine wq_v (fun v8_q35423 h_v8_q35423 => ?_)
        have t_v8_q35423 := congrArg Int32.toInt h_v8_q35423
        have l_1 := il_1
        have t_35426 := ia_add y41_7 (1 : Int32) (by omega) (by omega)
        refine wq_v (fun v9_q35425 h_v9_q35425 => ?_)
        have t_v9_q35425 := congrArg Int32.toInt h_v9_q35425
        exact ih v8_q35423 v9_q35425 ⟨by omega, by omega⟩ ⟨by omega, by omega⟩ (by omega)
      · have l_1 := il_1
        have t_35428 := ia_add y41_7 (1 : Int32) (by omega) (by omega)
        refine wq_v (fun v7_q35427 h_v7_q35427 => ?_)
        have t_v7_q35427 := congrArg Int32.toInt h_v7_q35427
        exact ih y41_6 v7_q35427 ⟨by omega, by omega⟩ ⟨by omega, by omega⟩ (by omega)
set_option maxHeartbeats 4000000 in
theorem tt_fX12_isMixed_L9 {N : Nat} (hN : 3000000000 ≤ N) (I0 : Nat → Int32) (L0 : Int64) (M0 : Nat → Nat → Int32) (x1 : Int32) (x2 : Int32) (h_x1 : 0 ≤ x1.toInt ∧ x1.toInt ≤ 119) (k_I0 : KX12 I0 M0)  : ∀ (fu : Nat) (y9_3 : Int32) (y9_4 : Int32) (y9_5 : Int32), (0 ≤ y9_4.toInt ∧ y9_4.toInt ≤ 1) → (0 ≤ y9_5.toInt ∧ y9_5.toInt ≤ 7) → (7 - y9_5.toInt) < (fu : Int) → wq (fX12_isMixed_L9 N I0 L0 M0 x1 x2 fu y9_3 y9_4 y9_5) (fun r => (0 ≤ r.toInt ∧ r.toInt ≤ 1) ∧ True) := by
  intro fu
  induction fu with
  | zero => intro y9_3 y9_4 y9_5 h_y9_4 h_y9_5 hm; exfalso; omega
  | succ fu ih =>
    intro y9_3 y9_4 y9_5 h_y9_4 h_y9_5 hm
    rw [fX12_isMixed_L9.eq_2]
    have l_7 := il_7
    refine wq_le (fun hc_35429 => ?_) (fun hc_35430 => ?_)
    · unfold fX12_isMixed_J107
      have l_0 := il_0
      refine wq_eq (fun hc_35431 => ?_) (fun hc_35432 => ?_)
      · exact wq_s ⟨(show 0 ≤ (0 : Int32).toInt ∧ (0 : Int32).toInt ≤ 1 from ⟨by omega, by omega⟩), trivial⟩
      · have b_35433 := i32b y9_3
        refine wq_eq (fun hc_35434 => ?_) (fun hc_35435 => ?_)
        · have l_1 := il_1
          exact wq_s ⟨(show 0 ≤ (1 : Int32).toInt ∧ (1 : Int32).toInt ≤ 1 from ⟨by omega, by omega⟩), trivial⟩
        · exact wq_s ⟨(show 0 ≤ (0 : Int32).toInt ∧ (0 : Int32).toInt ≤ 1 from ⟨by omega, by omega⟩), trivial⟩
    · have l_0 := il_0
      refine wq_eq (fun hc_35436 => ?_) (fun hc_35437 => ?_)
      · unfold fX12_isMixed_J107
        refine wq_eq (fun hc_35438 => ?_) (fun hc_35439 => ?_)
        · exact wq_s ⟨(show 0 ≤ (0 : Int32).toInt ∧ (0 : Int32).toInt ≤ 1 from ⟨by omega, by omega⟩), trivial⟩
        · exfalso; omega
      · refine wq_b (tt_fX12_at hN I0 L0 M0 x1 y9_5 ⟨by omega, by omega⟩ ⟨by omega, by omega⟩ k_I0) (fun r1_q35440 h_r1_q35440 => ?_)
        obtain ⟨h_r1_q35440_0, h_r1_q35440_1, h_r1_q35440_2, -⟩ := h_r1_q35440
        have l_m1 := il_m1
        refine wq_eq (fun hc_35441 => ?_) (fun hc_35442 => ?_)
        · have l_1 := il_1
          have t_35444 := ia_add y9_5 (1 : Int32) (by omega) (by omega)
          refine wq_v (fun v10_q35443 h_v10_q35443 => ?_)
          have t_v10_q35443 := congrArg Int32.toInt h_v10_q35443
          have b_35445 := i32b y9_3
          exact ih y9_3 y9_4 v10_q35443 ⟨by omega, by omega⟩ ⟨by omega, by omega⟩ (by omega)
        · have b_35446 := i32b x2
          have b_35447 := i32b y9_3
          exact tt_fX12_isMixed_L41 hN I0 L0 M0 x1 x2 y9_3 y9_5 _ ⟨by omega, by omega⟩ ⟨by omega, by omega⟩ k_I0 (fun q0 q1 q2 hq0 hq1 hq2 => ih q0 q1 q2 hq0 hq1 (by omega)) N (0 : Int32) (0 : Int32) ⟨by omega, by omega⟩ ⟨by omega, by omega⟩ (by omega)
set_option maxHeartbeats 4000000 in
theorem tt_fX12_isMixed {N : Nat} (hN : 3000000000 ≤ N) (I0 : Nat → Int32) (L0 : Int64) (M0 : Nat → Nat → Int32) (x1 : Int32) (x2 : Int32) (h_x1 : 0 ≤ x1.toInt ∧ x1.toInt ≤ 119) (k_I0 : KX12 I0 M0) : wq (fX12_isMixed N I0 L0 M0 x1 x2) (fun r => (0 ≤ r.toInt ∧ r.toInt ≤ 1) ∧ True) := by
  unfold fX12_isMixed
  have b_35448 := i32b x2
  have l_15 := il_15
  have l_1 := il_1
  have l_0 := il_0
  exact tt_fX12_isMixed_L9 hN I0 L0 M0 x1 x2 ⟨by omega, by omega⟩ k_I0 N (15 : Int32) (1 : Int32) (0 : Int32) ⟨by omega, by omega⟩ ⟨by omega, by omega⟩ (by omega)
set_option maxHeartbeats 4000000 in
theorem tt_fX12_mixed_L27 {N : Nat} (hN : 3000000000 ≤ N) (x1 : Int32) (x2 : Int32) (x3 : Int32) (x4 : Int32) (h_x1 : 0 ≤ x1.toInt ∧ x1.toInt ≤ 5) (h_x2 : 0 ≤ x2.toInt ∧ x2.toInt ≤ 19) (h_x3 : 0 ≤ x3.toInt ∧ x3.toInt ≤ 1000000) (h_x4 : 0 ≤ x4.toInt ∧ x4.toInt ≤ 50000)  : ∀ (fu : Nat) (I0_l27 : (Nat → Int32)) (L0_l27 : Int64) (M0_l27 : (Nat → Nat → Int32)) (y27_5 : Int32) (y27_6 : Int32), (0 ≤ y27_6.toInt ∧ y27_6.toInt ≤ 1050001) → (KX12 I0_l27 M0_l27) → (1050001 - y27_6.toInt) < (fu : Int) → wq (fX12_mixed_L27 N x1 x2 x3 x4 fu I0_l27 L0_l27 M0_l27 y27_5 y27_6) (fun r => KX12 r.2.1 r.2.2.2 ∧ True) := by
  intro fu
  induction fu with
  | zero => intro I0_l27 L0_l27 M0_l27 y27_5 y27_6 h_y27_6 k_I0_l27 hm; exfalso; omega
  | succ fu ih =>
    intro I0_l27 L0_l27 M0_l27 y27_5 y27_6 h_y27_6 k_I0_l27 hm
    rw [fX12_mixed_L27.eq_2]
    have t_36023 := ia_add x3 x4 (by omega) (by omega)
    refine wq_lt (fun hc_36024 => ?_) (fun hc_36025 => ?_)
    · have b_36026 := i32b y27_5
      exact wq_s ⟨k_I0_l27, trivial⟩
    · have l_20 := il_20
      have t_36027 := ia_mul (20 : Int32) (20) il_20 x1 (by omega) (by omega)
      have t_36028 := ia_add ((20 : Int32) * x1) x2 (by omega) (by omega)
      refine wq_b (tt_fX12_isMixed hN I0_l27 L0_l27 M0_l27 (((20 : Int32) * x1) + x2) y27_6 ⟨by omega, by omega⟩ k_I0_l27) (fun r3_q36029 h_r3_q36029 => ?_)
      obtain ⟨h_r3_q36029_0, -⟩ := h_r3_q36029
      have l_0 := il_0
      refine wq_eq (fun hc_36030 => ?_) (fun hc_36031 => ?_)
      · have l_1 := il_1
        have t_36033 := ia_add y27_6 (1 : Int32) (by omega) (by omega)
        refine wq_v (fun v4_q36032 h_v4_q36032 => ?_)
        have t_v4_q36032 := congrArg Int32.toInt h_v4_q36032
        have b_36034 := i32b y27_5
        exact ih I0_l27 L0_l27 M0_l27 y27_5 v4_q36032 ⟨by omega, by omega⟩ k_I0_l27 (by omega)
      · have b_36036 := i32b y27_5
        have l_1 := il_1
        refine wq_v (fun v5_q36035 h_v5_q36035 => ?_)
        have t_v5_q36035 := congrArg Int32.toInt h_v5_q36035
        have t_36038 := ia_add y27_6 (1 : Int32) (by omega) (by omega)
        refine wq_v (fun v6_q36037 h_v6_q36037 => ?_)
        have t_v6_q36037 := congrArg Int32.toInt h_v6_q36037
        have b_36039 := i32b v5_q36035
        exact ih I0_l27 L0_l27 M0_l27 v5_q36035 v6_q36037 ⟨by omega, by omega⟩ k_I0_l27 (by omega)
set_option maxHeartbeats 4000000 in
theorem tt_fX12_mixed {N : Nat} (hN : 3000000000 ≤ N) (I0 : Nat → Int32) (L0 : Int64) (M0 : Nat → Nat → Int32) (x1 : Int32) (x2 : Int32) (x3 : Int32) (x4 : Int32) (k_I0 : KX12 I0 M0) : wq (fX12_mixed N I0 L0 M0 x1 x2 x3 x4) (fun r => KX12 r.2.1 r.2.2.2 ∧ True) := by
  unfold fX12_mixed
  have b_36040 := i32b x1
  have b_36041 := i32b x2
  refine wq_b (tt_fX12_isWheel hN I0 L0 M0 x1 x2 k_I0) (fun r1_q36042 h_r1_q36042 => ?_)
  obtain ⟨h_r1_q36042_0, h_r1_q36042_1, h_r1_q36042_2, h_r1_q36042_3, -⟩ := h_r1_q36042
  have t_36043 := KX12.i1 h_r1_q36042_3
  have t_36044 := KX12.i1 k_I0
  have l_0 := il_0
  refine wq_eq (fun hc_36045 => ?_) (fun hc_36046 => ?_)
  · exact wq_s ⟨h_r1_q36042_3, trivial⟩
  · have b_36047 := i32b x3
    have b_36048 := i32b x4
    refine wq_b (tt_fX12_isSpan hN r1_q36042.2.1 r1_q36042.2.2.1 r1_q36042.2.2.2 x3 x4 h_r1_q36042_3) (fun r2_q36049 h_r2_q36049 => ?_)
    obtain ⟨h_r2_q36049_0, h_r2_q36049_1, h_r2_q36049_2, h_r2_q36049_3, -⟩ := h_r2_q36049
    have t_36050 := KX12.i1 h_r2_q36049_3
    refine wq_eq (fun hc_36051 => ?_) (fun hc_36052 => ?_)
    · exact wq_s ⟨h_r2_q36049_3, trivial⟩
    · exact tt_fX12_mixed_L27 hN x1 x2 x3 x4 ⟨by omega, by omega⟩ ⟨by omega, by omega⟩ ⟨by omega, by omega⟩ ⟨by omega, by omega⟩ N r2_q36049.2.1 r2_q36049.2.2.1 r2_q36049.2.2.2 (0 : Int32) x3 ⟨by omega, by omega⟩ h_r2_q36049_3 (by omega)

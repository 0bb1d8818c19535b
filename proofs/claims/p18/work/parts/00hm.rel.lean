theorem stop_n {N : Nat} {S S2 : (Nat → Int32) × Int64 × (Nat → Nat → Int32)} (q : ¬ S.1 4 = 0) (g : (if S.1 8 = 3 then fX12_need N S.1 S.2.1 S.2.2 1 else fX12_need N S.1 S.2.1 S.2.2 0) = some S2) : ¬ S2.1 4 = 0 := by
  rcases ifr g with ⟨-, g⟩ | ⟨-, g⟩
  · have g := need_n q g
    subst g
    exact q
  · have g := need_n q g
    subst g
    exact q
/-- a LINE of both with its sign ; -/
def LnE (I : Nat → Int32) (M : Nat → Nat → Int32) (RI : Nat → Int32) (RM : Nat → Nat → Int32) (S2 : (Nat → Int32) × Int64 × (Nat → Nat → Int32)) : Prop := TK RI S2.1 S2.2.1 M S2.2.2 ∧ S2.1 4 = 0 ∧ RM = M ∧ (I 3).toInt ≤ (RI 2).toInt ∧ PsT RI
theorem stopl {N N2 : Nat} {I RI : Nat → Int32} {M RM : Nat → Nat → Int32} {R1 : Int32} {S S2 : (Nat → Int32) × Int64 × (Nat → Nat → Int32)} {r : Int32 × (Nat → Int32) × (Nat → Nat → Int32)} (lo : LO I M R1 RI RM S) (h : fX9_takeStop N RI RM = some r) (g : (if S.1 8 = 3 then fX12_need N2 S.1 S.2.1 S.2.2 1 else fX12_need N2 S.1 S.2.1 S.2.2 0) = some S2) : (r.1 = 0 ∧ ¬ S2.1 4 = 0) ∨ (r.1 = 1 ∧ LnE I M r.2.1 r.2.2 S2 ∧ S2.2.2 = S.2.2) := by
  obtain ⟨l1, l2, l3, l4⟩ := lo
  rw [l3] at h
  rcases stop_tk l1 l2 h g with ⟨k1, k2, k3, k4, k5, k6, k7, k8⟩ | ⟨k1, k2, k3, k4⟩
  · refine Or.inr ⟨k1, ⟨?_, k3, k4, ?_, k7⟩, k5⟩
    · rw [k5]; exact k2
    · have := l1.2.2.2.2.1
      omega
  · exact Or.inl ⟨k1, k4.2⟩
theorem setl {N N2 : Nat} {M K M0 : Nat → Nat → Int32} {I J I0 : Nat → Int32} {L : Int64} {R : Int32 × (Nat → Int32) × (Nat → Nat → Int32) × (Nat → Int32) × (Nat → Nat → Int32)} {S S2 : (Nat → Int32) × Int64 × (Nat → Nat → Int32)} (tk : TK I J L M K) (j4 : J 4 = 0) (d : H4 M0 K) (h : fX5_readSet N I0 M0 I M = some R) (g : fX12_readsSet N2 J L K = some S) (g2 : (if S.1 8 = 3 then fX12_need N2 S.1 S.2.1 S.2.2 1 else fX12_need N2 S.1 S.2.1 S.2.2 0) = some S2) :
    (R.1 = 0 ∧ ¬ S2.1 4 = 0) ∨ (R.1 = 1 ∧ LnE I M R.2.2.2.1 R.2.2.2.2 S2 ∧ S2.2.2 = S.2.2 ∧ R.2.1 = I0 ∧ R.2.2.1 4 = M0 4 ∧ R.2.2.1 5 = M0 5 ∧ H4 R.2.2.1 S2.2.2) := by
  unfold fX5_readSet at h
  unfold fX12_readsSet fX12_readsSet_J31 at g
  obtain ⟨r1, e1, h⟩ := wb_b h
  obtain ⟨s17, f17, g⟩ := wb_b g
  obtain ⟨t1, t2, t3, t4, t5, t6, t7⟩ := st_all e1 f17 tk.1 j4
  rw [t3] at h
  rw [t4] at g
  obtain ⟨r2, e2, h⟩ := wb_b h
  obtain ⟨s18, f18, g⟩ := wb_b g
  obtain ⟨v19, ev19, g⟩ := wb_v g
  obtain ⟨s20, f20, g⟩ := wb_b g
  have m1 := tk.2.2.2.2.1
  have m2 := t1.2.2.2.2.1
  rcases num_tk t1 t2 e2 f18 with ⟨c1, c2, c3, c4, c5, c6, c7, c8, c9, c10⟩ | ⟨c1, c2, c3, c4⟩
  · have h := wb_f (by rw [c1]; decide) h
    obtain ⟨v3, ev3, h⟩ := wb_v h
    rw [c7] at h
    rw [c8] at g f20
    obtain ⟨r4, e4, h⟩ := wb_b h
    have c22 := c2
    obtain ⟨q, b1, b2, b3, b4, b5, b6, b7⟩ := c22
    have kk := kw c2 f20
    have ev : v19 = v3 := by rw [ev19, ev3, c4]
    unfold fX9_namedOf at e4
    rcases nmd_l (n := 7) (by omega) b3 b4 (by have := q.2.2.2.1; have := q.2.2.2.2.1; omega) N 0 r4 (Nat.zero_le _) e4 (fun k hk => absurd hk (Nat.not_lt_zero k)) with ⟨k, hk, er, hw⟩ | ⟨er, hn⟩
    · have es : s20 = nI k := (kk.1 k (by omega)).mpr hw
      subst er
      subst es
      have tkk : (nI k).toInt = (k : Int) := nI_toInt (by omega)
      have g := wb_f (c := nI k < 0) (nI_pos (by omega)) g
      have g := wb_f (c := (7 : Int32) ≤ nI k) (fun z => by
        have := (le32 (by decide : (7 : Int32).toInt = 7) tkk).mp z
        omega) g
      have h := wb_f (fun z => by
        have := (eq32 tkk (by decide : (-1 : Int32).toInt = -1)).mp z
        omega) h
      obtain ⟨r5, e5, h⟩ := wb_b h
      obtain ⟨s6, f6, g⟩ := j32_t g
      unfold fX12_need at f6
      rw [good1 c3, Option.bind_some] at f6
      have f6 := wb_f (c := (1 : Int32) = 0) (by decide) f6
      have f6 := wb_f (c := (1 : Int32) = 0) (by decide) f6
      obtain ⟨s7, f7, f6⟩ := wb_b f6
      have f6 := Option.some.inj f6
      subst f6
      obtain ⟨u1, u2, u3, u4, u5, u6, u7⟩ := st_all e5 f7 q c3
      rw [u3] at h
      have g : tset N2 s7.1 s7.2.1 s7.2.2 v19 (nI k) = some S := g
      rw [u4, ev] at g
      obtain ⟨r6, e6, h⟩ := wb_b h
      rcases tabl u1 u2 d e6 g with ⟨k1, k2⟩ | ⟨k1, k2, k3, k4, k5, k6⟩
      · have h := Option.some.inj (wb_t k1 h)
        subst h
        exact Or.inl ⟨rfl, stop_n k2 g2⟩
      · have h := wb_f (by rw [k1]; decide) h
        obtain ⟨r7, e7, h⟩ := wb_b h
        rcases stopl k2 e7 g2 with ⟨l1, l2⟩ | ⟨l1, l2, l3⟩
        · have h := Option.some.inj (wb_t l1 h)
          subst h
          exact Or.inl ⟨rfl, l2⟩
        · have h := Option.some.inj (wb_f (by rw [l1]; decide) h)
          subst h
          obtain ⟨x1, x2, x3, x4, x5⟩ := l2
          refine Or.inr ⟨rfl, ⟨x1, x2, x3, ?_, x5⟩, l3, k3, k4, k5, ?_⟩
          · have y1 := c2.2.2.2.2.1
            have y2 := u1.2.2.2.2.1
            show (I 3).toInt ≤ (r7.2.1 2).toInt
            omega
          · rw [l3]; exact k6
    · left
      have h := wb_t er h
      obtain ⟨r8, e8, h⟩ := wb_b h
      have e8 := refu e8
      subst e8
      have h := Option.some.inj (wb_y h).2
      subst h
      refine ⟨rfl, stop_n ?_ g2⟩
      rcases kk.2 with z | ⟨k, hk, z⟩
      · exact b32s c3 (wb_t (by rw [z]; decide) g)
      · have tkk : (nI k).toInt = (k : Int) := nI_toInt (by omega)
        have g := wb_f (by rw [z]; exact nI_pos (by omega)) g
        refine b32s c3 (wb_t ?_ g)
        rw [z]
        refine (le32 (by decide : (7 : Int32).toInt = 7) tkk).mpr ?_
        by_cases k7 : k < 7
        · exact absurd ((kk.1 k hk).mp z) (hn k k7)
        · omega
  · left
    have h := Option.some.inj (wb_t c1 h)
    subst h
    refine ⟨rfl, stop_n ?_ g2⟩
    rcases ifr g with ⟨-, g⟩ | ⟨-, g⟩
    · rw [n32s c4.2 g]; exact c4.2
    · rcases ifr g with ⟨-, g⟩ | ⟨-, g⟩
      · rw [n32s c4.2 g]; exact c4.2
      · rw [n32s c4.2 g]; exact c4.2
/-! HANDS -/
def HH (m5 : Nat → Int32) (h : Int) (rd st : Nat → Int32) : Prop := ∀ a b : Nat, a < 30 → b < 30 → (bt (m5 a) b = true ↔ ∃ k : Nat, (k : Int) < h ∧ (rd k).toInt = (a : Int) ∧ (st k).toInt = (b : Int))
theorem bt_or1 {x : Int32} {b c : Nat} (hb : b < 32) (hc : c < 32) : bt (x ||| ((1 : Int32) <<< (nI c &&& 31))) b = true ↔ (bt x b = true ∨ b = c) := by
  rw [b_or, b_shl c hc 1 hb, Bool.or_eq_true, Bool.and_eq_true, decide_eq_true_eq]
  have h1 : ∀ i, i < 32 → (bt 1 i = true ↔ i = 0) := by decide +kernel
  constructor
  · rintro (h | ⟨h, h2⟩)
    · exact Or.inl h
    · right
      have := (h1 (b - c) (by omega)).mp h2
      omega
  · rintro (h | h)
    · exact Or.inl h
    · right
      subst h
      exact ⟨Nat.le_refl _, (h1 _ (by omega)).mpr (by omega)⟩
theorem n14h {N : Nat} {J : Nat → Int32} {L : Int64} {K : Nat → Nat → Int32} {S : (Nat → Int32) × Int64 × (Nat → Nat → Int32)} (j4 : ¬ J 4 = 0) (h : fX12_readsHand_J14 N J L K = some S) : S = (J, L, K) := by
  unfold fX12_readsHand_J14 at h
  rw [good2 j4, Option.bind_some] at h
  exact (Option.some.inj (wb_t (c := (0 : Int32) = 0) rfl h)).symm
theorem hanl {N N2 : Nat} {M K M0 : Nat → Nat → Int32} {I J I0 : Nat → Int32} {L : Int64} {R : Int32 × (Nat → Int32) × (Nat → Nat → Int32) × (Nat → Int32) × (Nat → Nat → Int32)} {S S2 : (Nat → Int32) × Int64 × (Nat → Nat → Int32)} (tk : TK I J L M K) (j4 : J 4 = 0) (hn : I0 0 = J 14) (h0 : 0 ≤ (J 14).toInt) (h30 : (J 14).toInt ≤ 30) (d : HH (M0 0) (J 14).toInt (K 15) (K 14)) (h : fX4_readHand N I0 M0 I M = some R) (g : fX12_readsHand N2 J L K = some S) (g2 : (if S.1 8 = 3 then fX12_need N2 S.1 S.2.1 S.2.2 1 else fX12_need N2 S.1 S.2.1 S.2.2 0) = some S2) :
    (R.1 = 0 ∧ ¬ S2.1 4 = 0) ∨ (R.1 = 1 ∧ LnE I M R.2.2.2.1 R.2.2.2.2 S2 ∧ S2.2.2 = S.2.2 ∧ R.2.1 0 = S.1 14 ∧ S2.1 14 = S.1 14 ∧ (0 ≤ (S.1 14).toInt ∧ (S.1 14).toInt ≤ 30) ∧ HH (R.2.2.1 0) (S.1 14).toInt (S.2.2 15) (S.2.2 14)) := by
  unfold fX4_readHand at h
  unfold fX12_readsHand at g
  rcases ifr h with ⟨c, h⟩ | ⟨c, h⟩
  · have c := (lt32 (by rw [hn]) (by decide : (30 : Int32).toInt = 30)).mp c
    have g := wb_f (fun z => by
      have := (eq32 (a := J 14) rfl (by decide : (30 : Int32).toInt = 30)).mp z
      omega) g
    unfold fX12_readsHand_J14 at g
    rw [good1 j4, Option.bind_some] at g
    have g := wb_f (c := (1 : Int32) = 0) (by decide) g
    obtain ⟨r1, e1, h⟩ := wb_b h
    obtain ⟨s2, f2, g⟩ := wb_b g
    obtain ⟨t1, t2, t3, t4, t5, t6, t7⟩ := st_all e1 f2 tk.1 j4
    rw [t3] at h
    rw [t4] at g
    obtain ⟨r2, e2, h⟩ := wb_b h
    obtain ⟨s3, f3, g⟩ := wb_b g
    obtain ⟨v4, ev4, g⟩ := wb_v g
    obtain ⟨s5, f5, g⟩ := wb_b g
    obtain ⟨v6, ev6, g⟩ := wb_v g
    obtain ⟨s7, f7, g⟩ := wb_b g
    have bad5 : ¬ s5.2.1 4 = 0 → ¬ S.1 4 = 0 := by
      intro q
      rcases good0 f7 with ⟨-, q2⟩ | ⟨q2, -⟩
      · exact absurd q2 q
      · have g := Option.some.inj (wb_t q2 g)
        subst g
        exact q
    have bad3 : ¬ s3.2.1 4 = 0 → ¬ S.1 4 = 0 := by
      intro q
      have f5 := nam_n q f5
      subst f5
      exact bad5 q
    rcases num_tk t1 t2 e2 f3 with ⟨c1, c2, c3, c4, c5, c6, c7, c8, c9, c10⟩ | ⟨c1, c2, c3, c4⟩
    · have h := wb_f (by rw [c1]; decide) h
      obtain ⟨v3, ev3, h⟩ := wb_v h
      rw [c7] at h
      rw [c8] at f5
      obtain ⟨r4, e4, h⟩ := wb_b h
      rcases wn_tk (k := 18) (by decide) c2 c3 e4 f5 with ⟨k1, k2⟩ | ⟨k1, k2, k3⟩
      · have h := Option.some.inj (wb_t k1 h)
        subst h
        exact Or.inl ⟨rfl, stop_n (bad5 k2) g2⟩
      · have h := wb_f (by rw [k1]; decide) h
        rw [k2] at h
        obtain ⟨r5, e5, h⟩ := wb_b h
        rcases k3 r5 e5 with ⟨l1, l2⟩ | ⟨l1, l2, l3, l4, l5, l6, l7, l8, l9⟩
        · have h := Option.some.inj (wb_t l1 h)
          subst h
          exact Or.inl ⟨rfl, stop_n (bad5 l2) g2⟩
        · have h := wb_f (by rw [l1]; decide) h
          obtain ⟨-, h⟩ := wb_n h
          obtain ⟨-, h⟩ := wb_n h
          obtain ⟨M6, eM6, h⟩ := wb_v h
          obtain ⟨I7, eI7, h⟩ := wb_v h
          rw [good1 l3] at f7
          have f7 := Option.some.inj f7
          have g := wb_f (by rw [← f7]; decide) g
          obtain ⟨-, g⟩ := wb_n g
          obtain ⟨K8, eK8, g⟩ := wb_v g
          obtain ⟨-, g⟩ := wb_n g
          obtain ⟨K9, eK9, g⟩ := wb_v g
          obtain ⟨J10, eJ10, g⟩ := wb_v g
          have g := Option.some.inj g
          subst g
          rw [eK8, l8] at eK9
          have j14 : s5.2.1 14 = J 14 := by
            rw [(fr_fX12_named f5).1 14 (by decide), (fr_fX12_number f3).1 14 (by decide), (fr_fX12_steps f2).1 14 (by decide)]
          rw [j14] at eK9
          have x14 : J10 14 = J 14 + 1 := by
            rw [eJ10]
            show s5.2.1 14 + 1 = _
            rw [j14]
          have a14 : (J 14 + 1).toInt = (J 14).toInt + 1 := inc32 (by omega)
          have lo : LO I M R.1 r5.2.1 r5.2.2 (J10, s5.2.2.1, K9) := by
            refine ⟨?_, ?_, l7, ?_⟩
            · have : TK r5.2.1 J10 s5.2.2.1 M K := by
                rw [eJ10]; exact l2
              exact this.cgK (by rw [eK9]; rfl)
            · show J10 4 = 0
              rw [eJ10]; exact l3
            · have y1 := t1.2.2.2.2.1
              have y2 := c2.2.2.2.2.1
              have y3 := l2.2.2.2.2.1
              show (I 3).toInt ≤ (r5.2.1 3).toInt
              omega
          obtain ⟨r8, e8, h⟩ := wb_b h
          have h := (wb_y h).2
          have h := Option.some.inj h
          subst h
          rcases stopl lo e8 g2 with ⟨x1, x2⟩ | ⟨x1, x2, x3⟩
          · exact Or.inl ⟨x1, x2⟩
          · right
            refine ⟨x1, x2, x3, ?_, ?_, ?_, ?_⟩
            · show I7 0 = J10 14
              rw [eI7, x14, ← hn]; rfl
            · rcases ifr g2 with ⟨-, g2⟩ | ⟨-, g2⟩
              · exact (fr_fX12_need g2).1 14 (by decide)
              · exact (fr_fX12_need g2).1 14 (by decide)
            · show 0 ≤ (J10 14).toInt ∧ (J10 14).toInt ≤ 30
              rw [x14, a14]; omega
            · intro a b ha hb
              show bt (M6 0 a) b = true ↔ ∃ k : Nat, (k : Int) < (J10 14).toInt ∧ (K9 15 k).toInt = (a : Int) ∧ (K9 14 k).toInt = (b : Int)
              rw [x14, a14]
              have kr : ∀ k, K9 15 k = if k = (J 14).toNatClampNeg then v4 else K 15 k := by
                intro k; rw [eK9]; rfl
              have ks : ∀ k, K9 14 k = if k = (J 14).toNatClampNeg then v6 else K 14 k := by
                intro k; rw [eK9]; rfl
              have v4r : v4 = v3 := by rw [ev4, ev3, c4]
              have v6r : v6 = r5.2.1 6 := by rw [ev6, l4]
              rw [← ev4] at c5 c6
              rw [← ev6] at l5 l6
              have n0 : (0 : Int32).toInt = 0 := by decide
              have n29 : (29 : Int32).toInt = 29 := by decide
              rw [n0] at c5 l5
              rw [n29] at c6 l6
              have m6 : M6 0 a = if a = v4.toInt.toNat then M0 0 a ||| ((1 : Int32) <<< (v6 &&& 31)) else M0 0 a := by
                rw [eM6, ← v4r, ← v6r]
                show (if (0 : Nat) = 0 then upd (M0 0) v4.toNatClampNeg _ else _) a = _
                rw [if_pos rfl]
                unfold upd
                rw [cl32]
                by_cases q : a = v4.toInt.toNat
                · rw [if_pos q, if_pos q, q]
                · rw [if_neg q, if_neg q]
              have e6n : v6 = nI v6.toInt.toNat := by
                apply t32
                rw [nI_toInt (by omega)]
                omega
              rw [m6]
              constructor
              · intro z
                by_cases q : a = v4.toInt.toNat
                · rw [if_pos q, e6n] at z
                  rcases (bt_or1 (by omega) (by omega)).mp z with z | z
                  · obtain ⟨k, w1, w2, w3⟩ := (d a b ha hb).mp z
                    refine ⟨k, by omega, ?_, ?_⟩
                    · rw [kr, if_neg (by rw [cl32]; omega)]; exact w2
                    · rw [ks, if_neg (by rw [cl32]; omega)]; exact w3
                  · refine ⟨(J 14).toInt.toNat, by omega, ?_, ?_⟩
                    · rw [kr, if_pos (cl32 _).symm]; omega
                    · rw [ks, if_pos (cl32 _).symm]; omega
                · rw [if_neg q] at z
                  obtain ⟨k, w1, w2, w3⟩ := (d a b ha hb).mp z
                  refine ⟨k, by omega, ?_, ?_⟩
                  · rw [kr, if_neg (by rw [cl32]; omega)]; exact w2
                  · rw [ks, if_neg (by rw [cl32]; omega)]; exact w3
              · rintro ⟨k, w1, w2, w3⟩
                by_cases q2 : k = (J 14).toNatClampNeg
                · rw [kr, if_pos q2] at w2
                  rw [ks, if_pos q2] at w3
                  rw [if_pos (by omega), e6n]
                  exact (bt_or1 (by omega) (by omega)).mpr (Or.inr (by omega))
                · rw [kr, if_neg q2] at w2
                  rw [ks, if_neg q2] at w3
                  have z := (d a b ha hb).mpr ⟨k, by rw [cl32] at q2; omega, w2, w3⟩
                  by_cases q : a = v4.toInt.toNat
                  · rw [if_pos q, e6n]
                    exact (bt_or1 (by omega) (by omega)).mpr (Or.inl z)
                  · rw [if_neg q]; exact z
    · have h := Option.some.inj (wb_t c1 h)
      subst h
      exact Or.inl ⟨rfl, stop_n (bad3 c4.2) g2⟩
  · left
    have c : ¬ _ := fun z => c ((lt32 (by rw [hn]) (by decide : (30 : Int32).toInt = 30)).mpr z)
    obtain ⟨r6, e6, h⟩ := wb_b h
    have e6 := refu e6
    subst e6
    have h := Option.some.inj (wb_y h).2
    subst h
    refine ⟨rfl, stop_n ?_ g2⟩
    have g := wb_t ((eq32 (a := J 14) rfl (by decide : (30 : Int32).toInt = 30)).mpr (by omega)) g
    obtain ⟨s, f, g⟩ := wb_b g
    have f := wrg0 j4 f
    subst f
    have g := n14h (J := upd (upd J 4 2) 5 (J 9)) (show ¬ (2 : Int32) = 0 by decide) g
    subst g
    show ¬ (2 : Int32) = 0
    decide

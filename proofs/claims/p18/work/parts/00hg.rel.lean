theorem EO.mono {I I' : Nat → Int32} {M0 M : Nat → Nat → Int32} {R : Int32 × (Nat → Int32) × (Nat → Nat → Int32) × (Nat → Int32) × (Nat → Nat → Int32)} {S : (Nat → Int32) × Int64 × (Nat → Nat → Int32)} (h : EO I' M0 M R S) (h7 : I' 7 = I 7) (hm : (I 3).toInt ≤ (I' 3).toInt) : EO I M0 M R S := by
  rcases h with ⟨k1, k2, k3, k4, k5, k6, k7, k8, k9⟩ | k
  · exact Or.inl ⟨k1, k2, k3, k4, k5, k6, by omega, k8, k9.trans h7⟩
  · exact Or.inr k
theorem isn {N : Nat} {I I0 : Nat → Int32} {M M0 : Nat → Nat → Int32} {x : Int32} {r : Int32 × (Nat → Int32) × (Nat → Nat → Int32)} (h : fX1_isNew N I0 M0 I M x = some r) : x.toNatClampNeg < 22 ∧ ((M0 1 x.toNatClampNeg = -1 ∧ ∃ r1, fX9_step N I M = some r1 ∧ r = (1, r1.1, r1.2)) ∨ (¬ M0 1 x.toNatClampNeg = -1 ∧ r = (0, upd (upd I 7 3) 8 (I 2), M))) := by
  unfold fX1_isNew at h
  obtain ⟨hn, h⟩ := wb_n h
  refine ⟨Nat.lt_of_not_le (fun q => hn (Or.inr q)), ?_⟩
  rcases ifr h with ⟨c, h⟩ | ⟨c, h⟩
  · left
    obtain ⟨r1, e1, h⟩ := wb_b h
    exact ⟨c, r1, e1, (Option.some.inj h).symm⟩
  · exact Or.inr ⟨c, refu2 h⟩
theorem n62 {N : Nat} {J : Nat → Int32} {L : Int64} {K : Nat → Nat → Int32} {y e : Int32} {S : (Nat → Int32) × Int64 × (Nat → Nat → Int32)} (j4 : ¬ J 4 = 0) (h : fX12_readsEntry_J62 N J L K y e = some S) : S = (J, L, K) := by
  unfold fX12_readsEntry_J62 at h
  rw [good2 j4, Option.bind_some] at h
  exact (Option.some.inj (wb_t (c := (0 : Int32) = 0) rfl h)).symm
theorem n20 {N : Nat} {J : Nat → Int32} {L : Int64} {K : Nat → Nat → Int32} {y : Int32} {S : (Nat → Int32) × Int64 × (Nat → Nat → Int32)} (j4 : ¬ J 4 = 0) (h : fX12_readsEntry_J20 N J L K y = some S) : S = (J, L, K) := by
  unfold fX12_readsEntry_J20 at h
  rw [good2 j4, Option.bind_some] at h
  exact (Option.some.inj (wb_t (c := (0 : Int32) = 0) rfl h)).symm
theorem g15 {N : Nat} {J : Nat → Int32} {L : Int64} {K : Nat → Nat → Int32} {y : Int32} {S : (Nat → Int32) × Int64 × (Nat → Nat → Int32)} (j4 : J 4 = 0) (h : fX12_readsEntry_J15 N J L K y = some S) : S = (upd (upd J 4 1) 5 (J 9), L, K) := by
  unfold fX12_readsEntry_J15 at h
  obtain ⟨r, e, h⟩ := wb_b h
  have e := wrg0 j4 e
  subst e
  exact n20 (J := upd (upd J 4 1) 5 (J 9)) (show ¬ (1 : Int32) = 0 by decide) h
theorem g40 {N : Nat} {J : Nat → Int32} {L : Int64} {K : Nat → Nat → Int32} {y e : Int32} {S : (Nat → Int32) × Int64 × (Nat → Nat → Int32)} (j4 : J 4 = 0) (hy : ¬ y = 9) (h : fX12_readsEntry_J40 N J L K y e = some S) : (K 16 e.toNatClampNeg = -1 ∧ ∃ r, fX12_steps N J L K = some r ∧ fX12_readsEntry_J129 N r.1 r.2.1 r.2.2 y e = some S) ∨ (¬ K 16 e.toNatClampNeg = -1 ∧ S = (upd (upd J 4 3) 5 (J 9), L, K)) := by
  unfold fX12_readsEntry_J40 at h
  have h := wb_f hy h
  obtain ⟨-, h⟩ := wb_n h
  rcases ifr h with ⟨c, h⟩ | ⟨c, h⟩
  · left
    refine ⟨c, ?_⟩
    unfold fX12_readsEntry_J62 at h
    rw [good1 j4, Option.bind_some] at h
    have h := wb_f (c := (1 : Int32) = 0) (by decide) h
    obtain ⟨r, e, h⟩ := wb_b h
    exact ⟨r, e, wb_f hy h⟩
  · right
    refine ⟨c, ?_⟩
    obtain ⟨r, e, h⟩ := wb_b h
    have e := wrg0 j4 e
    subst e
    exact n62 (J := upd (upd J 4 3) 5 (J 9)) (show ¬ (3 : Int32) = 0 by decide) h
/-- an ENTRY of both -/
theorem rdE {N N2 : Nat} {M K M0 : Nat → Nat → Int32} {I J I0 : Nat → Int32} {L : Int64} {R : Int32 × (Nat → Int32) × (Nat → Nat → Int32) × (Nat → Int32) × (Nat → Nat → Int32)} {S : (Nat → Int32) × Int64 × (Nat → Nat → Int32)} (tk : TK I J L M K) (j4 : J 4 = 0) (d : DR M0 K) (h : fX1_readEntry N I0 M0 I M = some R) (g : fX12_readsEntry N2 J L K = some S) : EO I M0 M R S := by
  have tk2 := tk
  obtain ⟨q, b1, b2, b3, b4, b5, b6, b7⟩ := tk2
  have h600 : (I 3).toInt ≤ 600 := by
    have q4 := q.2.2.2.1
    have q5 := q.2.2.2.2.1
    omega
  unfold fX1_readEntry at h
  unfold fX12_readsEntry at g
  obtain ⟨r1, e1, h⟩ := wb_b h
  obtain ⟨s, f, g⟩ := wb_b g
  have kk := kw tk f
  rcases isw (w := 0) (by decide) b3 b4 h600 e1 with ⟨c1, c2⟩ | ⟨c1, c2⟩
  · have er : s = nI 9 := (kk.1 9 (by decide)).mpr c2
    subst er
    have g := wb_f (c := nI 9 < 0) (by decide) g
    have g := wb_t (c := nI 9 ≤ 10) (by decide) g
    unfold fX12_readsEntry_J20 at g
    rw [good1 j4, Option.bind_some] at g
    have g := wb_f (c := (1 : Int32) = 0) (by decide) g
    have g := wb_f (c := nI 9 = 10) (by decide) g
    unfold fX12_readsEntry_J40 at g
    have g := wb_t (c := nI 9 = 9) (by decide) g
    unfold fX12_readsEntry_J62 at g
    rw [good1 j4, Option.bind_some] at g
    have g := wb_f (c := (1 : Int32) = 0) (by decide) g
    obtain ⟨s10, f10, g⟩ := wb_b g
    have g := wb_t (c := nI 9 = 9) (by decide) g
    obtain ⟨v11, ev11, g⟩ := wb_v g
    obtain ⟨s12, f12, g⟩ := wb_b g
    obtain ⟨v13, ev13, g⟩ := wb_v g
    obtain ⟨v14, ev14, g⟩ := wb_v g
    obtain ⟨s15, f15, g⟩ := wb_b g
    have h := wb_f (by rw [c1]; decide) h
    obtain ⟨r7, e7, h⟩ := wb_b h
    obtain ⟨r8, e8, h⟩ := wb_b h
    obtain ⟨t1, t2, t3, t4, t5, t6, t7⟩ := st_all e7 f10 q j4
    rw [t3] at e8
    rw [t4] at f12
    have tr := t1.2.2.2.2.1
    rcases hold_tk t1 t2 e8 f12 with ⟨k1, k2, k3, k4, s3, k5, k6⟩ | ⟨k1, k2, k3, k4⟩
    · subst k1
      subst k6
      have h := wb_f (c := (1 : Int32) = 0) (by decide) h
      obtain ⟨r9, e9, h⟩ := wb_b h
      have lo : 1 ≤ (s10.1 11).toInt := by
        have this : ¬ _ := fun z => k3 ((lt32 (y := 1) rfl (by decide)).mpr z)
        omega
      have hi : (s10.1 11).toInt ≤ 12 := (le32 (y := 12) rfl (by decide)).mp k4
      have ex : (8 : Int32) + (upd r7.1 6 (r7.1 5)) 6 = v14 := by
        rw [ev14, ev13]
        show (8 : Int32) + r7.1 5 = 9 + s10.1 11 - 1
        rw [k2]
        apply t32
        have n8 : (8 : Int32).toInt = 8 := by decide
        have n9 : (9 : Int32).toInt = 9 := by decide
        have n1 : (1 : Int32).toInt = 1 := by decide
        have a1 := ia_add 8 (s10.1 11) (by omega) (by omega)
        have a2 := ia_add 9 (s10.1 11) (by omega) (by omega)
        have a3 := ia_sub (9 + s10.1 11) 1 (by omega) (by omega)
        omega
      have e9 : fX1_readDegree N I0 M0 (upd r7.1 6 (r7.1 5)) M v14 = some r9 := by rw [← ex]; exact e9
      unfold fX1_readDegree at e9
      obtain ⟨p1, w1, e9⟩ := wb_b e9
      obtain ⟨hx, w1⟩ := isn w1
      have s34 : s3.1 4 = 0 := ((fr_fX12_steps k5).1 4 (by decide)).trans t2
      have s38 : s3.2.2 = K := (fr_fX12_steps k5).2.nil
      have fin : EO I M0 M r9 S → EO I M0 M R S := by
        intro E
        rcases E with ⟨u1, u2⟩ | ⟨u1, u2⟩
        · have h := Option.some.inj (wb_f (by rw [u1]; decide) h)
          subst h
          exact Or.inl ⟨rfl, u2⟩
        · have h := Option.some.inj (wb_t u1 h)
          subst h
          exact Or.inr ⟨rfl, u2⟩
      apply fin
      rcases good0 f15 with ⟨p, -⟩ | ⟨-, p⟩
      · have g := wb_f (by rw [p]; decide) g
        obtain ⟨-, g⟩ := wb_n g
        rcases w1 with ⟨m1, p2, w2, m2⟩ | ⟨m1, m2⟩
        · subst m2
          have e9 := wb_f (c := (1 : Int32) = 0) (by decide) e9
          obtain ⟨u1, u2, u3, u4, u5, u6, u9⟩ := st_all w2 k5 (t1.w6 _) t2
          have g := wb_t (by rw [s38, ← d _ hx]; exact m1) g
          rw [u4] at g
          rw [u3] at e9
          have E := e_tail2 (k := nI 9) (by decide) u1 u2 d e9 g
          refine E.mono (u9.trans t7) ?_
          have u7 := u1.2.2.2.2.1
          have u8 : (r7.1 3).toInt ≤ (p2.1 2).toInt := u5
          omega
        · subst m2
          have e9 := Option.some.inj (wb_t (c := (0 : Int32) = 0) rfl e9)
          subst e9
          have g := wb_f (by rw [s38, ← d _ hx]; exact m1) g
          obtain ⟨J16, eJ16, g⟩ := wb_v g
          obtain ⟨J17, eJ17, g⟩ := wb_v g
          have j17 : J17 4 = 3 := by rw [eJ17, eJ16]; rfl
          have g := n129 (by rw [j17]; decide) g
          subst g
          exact Or.inr ⟨rfl, ⟨j17, by show ¬ J17 4 = 0; rw [j17]; decide⟩, rfl, rfl⟩
      · exact absurd s34 p
    · right
      have h := Option.some.inj (wb_t k1 h)
      subst h
      rcases good0 f15 with ⟨-, p⟩ | ⟨p, -⟩
      · exact absurd p k4.2
      · have g := n129 k4.2 (wb_t p g)
        subst g
        exact ⟨rfl, k4, k2, rfl⟩
  · have h := wb_t c1 h
    obtain ⟨r2, e2, h⟩ := wb_b h
    rcases isw (w := 1) (by decide) b3 b4 h600 e2 with ⟨c3, c4⟩ | ⟨c3, c4⟩
    · have er : s = nI 10 := (kk.1 10 (by decide)).mpr c4
      subst er
      have g := wb_f (c := nI 10 < 0) (by decide) g
      have g := wb_t (c := nI 10 ≤ 10) (by decide) g
      unfold fX12_readsEntry_J20 at g
      rw [good1 j4, Option.bind_some] at g
      have g := wb_f (c := (1 : Int32) = 0) (by decide) g
      have g := wb_t (c := nI 10 = 10) (by decide) g
      have h := wb_f (by rw [c3]; decide) h
      obtain ⟨r6, e6, h⟩ := wb_b h
      have h := Option.some.inj (wb_y h).2
      subst h
      unfold fX1_readDate at e6
      obtain ⟨p1, w1, e6⟩ := wb_b e6
      obtain ⟨hx, w1⟩ := isn w1
      show EO I M0 M r6 S
      rcases g40 j4 (by decide) g with ⟨m3, s10, f10, g⟩ | ⟨m3, g⟩
      · rcases w1 with ⟨m1, p2, w2, m2⟩ | ⟨m1, m2⟩
        · subst m2
          have e6 := wb_f (c := (1 : Int32) = 0) (by decide) e6
          obtain ⟨u1, u2, u3, u4, u5, u6, u9⟩ := st_all w2 f10 q j4
          rw [u4] at g
          rw [u3] at e6
          refine (e_tail3 u1 u2 d e6 g).mono u9 ?_
          have u7 := u1.2.2.2.2.1
          omega
        · exact absurd ((d _ hx).trans m3) m1
      · rcases w1 with ⟨m1, p2, w2, m2⟩ | ⟨m1, m2⟩
        · exact absurd ((d _ hx).symm.trans m1) m3
        · subst m2
          have e6 := Option.some.inj (wb_t (c := (0 : Int32) = 0) rfl e6)
          subst e6
          subst g
          exact Or.inr ⟨rfl, ⟨rfl, show ¬ (3 : Int32) = 0 by decide⟩, rfl, rfl⟩
    · have h := wb_t c3 h
      obtain ⟨r3, e3, h⟩ := wb_b h
      unfold fX9_namedOf at e3
      rcases nmd_l (n := 9) (Nat.le_refl _) b3 b4 h600 N 0 r3 (Nat.zero_le _) e3 (fun k hk => absurd hk (Nat.not_lt_zero k)) with ⟨k, hk, er, hw⟩ | ⟨er, hn⟩
      · have es : s = nI k := (kk.1 k (by omega)).mpr hw
        subst er
        subst es
        have tkk : (nI k).toInt = (k : Int) := nI_toInt (by omega)
        have g := wb_f (c := nI k < 0) (nI_pos (by omega)) g
        have g := wb_t (c := nI k ≤ 10) ((le32 (y := 10) tkk (by decide)).mpr (by omega)) g
        unfold fX12_readsEntry_J20 at g
        rw [good1 j4, Option.bind_some] at g
        have g := wb_f (c := (1 : Int32) = 0) (by decide) g
        have n10 : ¬ nI k = 10 := fun z => by
          have := (eq32 (y := 10) tkk (by decide)).mp z
          omega
        have n9 : ¬ nI k = 9 := fun z => by
          have := (eq32 (y := 9) tkk (by decide)).mp z
          omega
        have g := wb_f n10 g
        have h := wb_f (fun z => by
          have := (eq32 (y := -1) tkk (by decide)).mp z
          omega) h
        obtain ⟨r6, e6, h⟩ := wb_b h
        have h := Option.some.inj (wb_y h).2
        subst h
        unfold fX1_readDegree at e6
        obtain ⟨p1, w1, e6⟩ := wb_b e6
        obtain ⟨hx, w1⟩ := isn w1
        show EO I M0 M r6 S
        rcases g40 j4 n9 g with ⟨m3, s10, f10, g⟩ | ⟨m3, g⟩
        · rcases w1 with ⟨m1, p2, w2, m2⟩ | ⟨m1, m2⟩
          · subst m2
            have e6 := wb_f (c := (1 : Int32) = 0) (by decide) e6
            obtain ⟨u1, u2, u3, u4, u5, u6, u9⟩ := st_all w2 f10 q j4
            rw [u4] at g
            rw [u3] at e6
            refine (e_tail2 n10 u1 u2 d e6 g).mono u9 ?_
            have u7 := u1.2.2.2.2.1
            omega
          · exact absurd ((d _ hx).trans m3) m1
        · rcases w1 with ⟨m1, p2, w2, m2⟩ | ⟨m1, m2⟩
          · exact absurd ((d _ hx).symm.trans m1) m3
          · subst m2
            have e6 := Option.some.inj (wb_t (c := (0 : Int32) = 0) rfl e6)
            subst e6
            subst g
            exact Or.inr ⟨rfl, ⟨rfl, show ¬ (3 : Int32) = 0 by decide⟩, rfl, rfl⟩
      · have h := wb_t er h
        obtain ⟨r5, e5, h⟩ := wb_b h
        have e5 := refu e5
        subst e5
        have h := Option.some.inj (wb_y h).2
        subst h
        have g15' : fX12_readsEntry_J15 N2 J L K s = some S := by
          rcases kk.2 with z | ⟨k, hk, z⟩
          · exact wb_t (by rw [z]; decide) g
          · have tkk : (nI k).toInt = (k : Int) := nI_toInt (by omega)
            have hw := (kk.1 k hk).mp z
            have g := wb_f (by rw [z]; exact nI_pos (by omega)) g
            refine wb_f ?_ g
            rw [z]
            intro y
            have y := (le32 (y := 10) tkk (by decide)).mp y
            by_cases k9 : k < 9
            · exact hn k k9 hw
            · by_cases k10 : k = 9
              · subst k10; exact c2 hw
              · have k11 : k = 10 := by omega
                subst k11; exact c4 hw
        have g := g15 j4 g15'
        subst g
        exact Or.inr ⟨rfl, ⟨rfl, show ¬ (1 : Int32) = 0 by decide⟩, rfl, rfl⟩

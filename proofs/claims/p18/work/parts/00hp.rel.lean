/-! a HOUSE: class and reference -/
theorem cp12_l {N n n2 : Nat} {f : Nat → Int32} (hn : n < 2 ^ 31) : ∀ (fu y : Nat) (g : Nat → Int32) r, fX12_copies_L2 N n f n2 fu g (nI y) = some r → y ≤ n → ∀ j, r j = if y ≤ j ∧ j < n then f j else g j := by
  intro fu
  induction fu with
  | zero => intro y g r h; cases (show none = some r from h)
  | succ fu ih =>
    intro y g r h hy j
    rw [fX12_copies_L2.eq_2] at h
    rcases ifr h with ⟨c, h⟩ | ⟨c, h⟩
    · have c := (nI_leI hn (by omega)).mp c
      have h := Option.some.inj h
      subst h
      rw [if_neg (by omega)]
    · have c : ¬ _ := fun z => c ((nI_leI hn (by omega)).mpr z)
      obtain ⟨-, h⟩ := wb_n h
      obtain ⟨-, h⟩ := wb_n h
      obtain ⟨f2, e2, h⟩ := wb_v h
      obtain ⟨v, ev, h⟩ := wb_v h
      rw [ev, nI_1] at h
      rw [nI_clamp (by omega)] at e2
      rw [ih (y + 1) f2 r h (by omega) j, e2]
      unfold upd
      by_cases h1 : y + 1 ≤ j ∧ j < n
      · rw [if_pos h1, if_pos (by omega)]
      · rw [if_neg h1]
        by_cases h2 : j = y
        · rw [if_pos h2, if_pos (by omega), h2]
        · rw [if_neg h2, if_neg (by omega)]
theorem cp12 {N n : Nat} {f g r : Nat → Int32} (hn : n < 2 ^ 31) (h : fX12_copies N n f n g = some r) : ∀ j, j < n → r j = f j := by
  intro j hj
  rw [cp12_l hn N 0 g r h (Nat.zero_le _) j, if_pos ⟨Nat.zero_le _, hj⟩]
theorem cpy0 {f g : Nat → Int32} {n j : Nat} (hj : j < n) : va_cpy f g 0 0 n j = f j := by
  unfold va_cpy
  rw [if_pos ⟨Nat.zero_le _, by omega⟩, Nat.zero_add]
  rfl
theorem cpF {N : Nat} {I0 I1 : Nat → Int32} {M0 M1 : Nat → Nat → Int32} {r : (Nat → Int32) × (Nat → Nat → Int32)} (h : fX5_copyFrom N I0 M0 I1 M1 = some r) : r.1 0 = I1 0 ∧ r.1 1 = I1 1 ∧ (∀ j, j < 28 → r.2 0 j = M1 0 j ∧ r.2 1 j = M1 1 j ∧ r.2 2 j = M1 2 j ∧ r.2 3 j = M1 3 j) ∧ (∀ j, j < 91 → r.2 4 j = M1 4 j) ∧ (∀ j, j < 30 → r.2 5 j = M1 5 j) := by
  unfold fX5_copyFrom at h
  obtain ⟨-, h⟩ := wb_n h
  obtain ⟨A1, e1, h⟩ := wb_v h
  obtain ⟨-, h⟩ := wb_n h
  obtain ⟨A2, e2, h⟩ := wb_v h
  obtain ⟨-, h⟩ := wb_n h
  obtain ⟨A3, e3, h⟩ := wb_v h
  obtain ⟨-, h⟩ := wb_n h
  obtain ⟨A4, e4, h⟩ := wb_v h
  obtain ⟨r5, e5, h⟩ := wb_b h
  obtain ⟨I6, e6, h⟩ := wb_v h
  obtain ⟨A7, e7, h⟩ := wb_v h
  obtain ⟨r8, e8, h⟩ := wb_b h
  obtain ⟨I9, e9, h⟩ := wb_v h
  obtain ⟨A10, e10, h⟩ := wb_v h
  have h := Option.some.inj h
  subst h
  unfold fX2_copyFrom at e5
  obtain ⟨-, e5⟩ := wb_n e5
  obtain ⟨B1, f1, e5⟩ := wb_v e5
  obtain ⟨B2, f2, e5⟩ := wb_v e5
  have e5 := Option.some.inj e5
  subst e5
  unfold fX4_copyFrom at e8
  obtain ⟨-, e8⟩ := wb_n e8
  obtain ⟨C1, g1, e8⟩ := wb_v e8
  obtain ⟨C2, g2, e8⟩ := wb_v e8
  have e8 := Option.some.inj e8
  subst e8
  have z0 : ((0 : Int32)).toNatClampNeg = 0 := by decide
  have z28 : ((28 : Int32)).toNatClampNeg = 28 := by decide
  have z91 : ((91 : Int32)).toNatClampNeg = 91 := by decide
  have z30 : ((30 : Int32)).toNatClampNeg = 30 := by decide
  rw [z0, z28] at e1 e2 e3 e4
  rw [z0, z91] at f1
  rw [z0, z30] at g1
  have a10 : ∀ k, k < 4 → A10 k = A4 k := fun k hk => by
    rw [e10, wbi_ge (Or.inl (by omega)), e7, wbi_ge (Or.inl (by omega))]
  refine ⟨?_, ?_, ?_, ?_, ?_⟩
  · show I9 0 = I1 0
    rw [e9, wbi_ge (Or.inl (by decide)), e6, wbi_lt (by decide)]
    show B2 0 = _
    rw [f2]; rfl
  · show I9 1 = I1 1
    rw [e9, wbi_in (by decide) (by decide)]
    show C2 0 = _
    rw [g2]; rfl
  · intro j hj
    show A10 0 j = _ ∧ A10 1 j = _ ∧ A10 2 j = _ ∧ A10 3 j = _
    rw [a10 0 (by decide), a10 1 (by decide), a10 2 (by decide), a10 3 (by decide)]
    refine ⟨?_, ?_, ?_, ?_⟩
    · rw [e4, e3, e2, e1]
      show va_cpy (M1 0) (M0 0) 0 0 28 j = _
      exact cpy0 hj
    · rw [e4, e3, e2]
      show va_cpy (M1 1) (A1 1) 0 0 28 j = _
      exact cpy0 hj
    · rw [e4, e3]
      show va_cpy (M1 2) (A2 2) 0 0 28 j = _
      exact cpy0 hj
    · rw [e4]
      show va_cpy (M1 3) (A3 3) 0 0 28 j = _
      exact cpy0 hj
  · intro j hj
    show A10 4 j = _
    rw [e10, wbi_ge (Or.inl (by decide)), e7, wbi_in (by decide) (by decide)]
    show B1 0 j = _
    rw [f1]
    show va_cpy (wb_sh M1 4 0) _ 0 0 91 j = _
    rw [cpy0 hj]
    rfl
  · intro j hj
    show A10 5 j = _
    rw [e10, wbi_in (by decide) (by decide)]
    show C1 0 j = _
    rw [g1]
    show va_cpy (wb_sh M1 5 0) _ 0 0 30 j = _
    rw [cpy0 hj]
    rfl
theorem HC.cg {m m' : Nat → Int32} {c : Int} {ri ri' : Nat → Int32} (h : HC m c ri) (hc : c ≤ 7) (hm : ∀ j, j < 91 → m' j = m j) (hr : ∀ j, j < 84 → ri' j = ri j) : HC m' c ri' := by
  refine ⟨fun k hk => ?_, fun k hk s hs => ?_⟩
  · rw [hm _ (by omega)]; exact h.1 k hk
  · rw [hm _ (by omega), h.2 k hk s hs]
    exact (psm_cg s (fun i hi => hr _ (by omega))).symm
theorem HH.cg {m m' : Nat → Int32} {c : Int} {rd rd' st st' : Nat → Int32} (h : HH m c rd st) (hc : c ≤ 30) (hm : ∀ j, j < 30 → m' j = m j) (hr : ∀ j, j < 30 → rd' j = rd j) (hs : ∀ j, j < 30 → st' j = st j) : HH m' c rd' st' := by
  intro a b ha hb
  rw [hm a ha, h a b ha hb]
  constructor
  · rintro ⟨k, w1, w2, w3⟩
    exact ⟨k, w1, by rw [hr k (by omega)]; exact w2, by rw [hs k (by omega)]; exact w3⟩
  · rintro ⟨k, w1, w2, w3⟩
    exact ⟨k, w1, by rw [← hr k (by omega)]; exact w2, by rw [← hs k (by omega)]; exact w3⟩
/-- what HOUSES told, of both -/
def HT (I : Nat → Int32) (M : Nat → Nat → Int32) (J : Nat → Int32) (K : Nat → Nat → Int32) : Prop := I 9 = J 1 ∧ I 10 = J 2 ∧ (0 ≤ (J 1).toInt ∧ (J 1).toInt ≤ 7) ∧ (0 ≤ (J 2).toInt ∧ (J 2).toInt ≤ 30) ∧ (∀ j : Nat, j < 28 → (M 1 j = K 0 j ∧ M 2 j = K 1 j ∧ M 3 j = K 2 j ∧ M 4 j = K 3 j) ∧ HRg (K 0 j) (K 1 j) (K 2 j) (K 3 j)) ∧ HC (M 5) (J 1).toInt (K 4) ∧ HH (M 6) (J 2).toInt (K 6) (K 5)
theorem HT.cg {I I' : Nat → Int32} {M M' : Nat → Nat → Int32} {J J' : Nat → Int32} {K K' : Nat → Nat → Int32} (h : HT I M J K) (h9 : I' 9 = I 9) (h10 : I' 10 = I 10) (hm : ∀ k, k < 7 → 1 ≤ k → M' k = M k) (j1 : J' 1 = J 1) (j2 : J' 2 = J 2) (hk : ∀ k, k < 7 → K' k = K k) : HT I' M' J' K' := by
  unfold HT at h ⊢
  rw [h9, h10, j1, j2, hm 1 (by decide) (by decide), hm 2 (by decide) (by decide), hm 3 (by decide) (by decide), hm 4 (by decide) (by decide), hm 5 (by decide) (by decide), hm 6 (by decide) (by decide), hk 0 (by decide), hk 1 (by decide), hk 2 (by decide), hk 3 (by decide), hk 4 (by decide), hk 5 (by decide), hk 6 (by decide)]
  exact h
theorem hous {N N2 : Nat} {I J : Nat → Int32} {L : Int64} {M K : Nat → Nat → Int32} {n : Int32} {r : Nat ⊕ (Int32 × (Nat → Int32) × (Nat → Nat → Int32))} {S : Int32 × (Nat → Int32) × Int64 × (Nat → Nat → Int32)} (tr : TR I J M K) (ht : HT I M J K) (h : fX11_house N I M n = some r) (g : fX12_house N2 J L K n = some S) :
    (r = .inl 2 ∧ S.2.1 0 = 1 ∧ S.2.1 1 = J 1 ∧ S.2.1 2 = J 2 ∧ S.2.1 3 = J 3 ∧ S.2.2.2 = K) ∨ (∃ R, r = .inr R ∧ S.2.1 0 = 0 ∧ R.2.1 0 = 0 ∧ S.2.1 3 = 0 ∧ HT R.2.1 R.2.2 S.2.1 S.2.2.2) := by
  unfold fX11_house at h
  unfold fX12_house at g
  obtain ⟨J18, e18, g⟩ := wb_v g
  obtain ⟨J19, e19, g⟩ := wb_v g
  rw [e18] at e19
  obtain ⟨s20, f20, g⟩ := wb_b g
  rw [wn11] at h
  obtain ⟨r1, e1, h⟩ := wb_v h
  have c := wI_c n 0 (I 0)
  rw [show (0 : Int32).toInt = 0 from by decide, ← e1] at c
  have j0 : J19 0 = 0 := by rw [e19]; rfl
  have j1 : J19 1 = J 1 := by rw [e19]; rfl
  have j2 : J19 2 = J 2 := by rw [e19]; rfl
  have j3 : J19 3 = J 3 := by rw [e19]; rfl
  have j12 : J19 12 = 0 := by rw [e19]; rfl
  have ei := tr.1
  rcases bg12 j0 f20 with ⟨⟨n0, n1⟩, s7, f7, es⟩ | ⟨hn, es⟩
  · right
    rcases c with ⟨c, -⟩ | ⟨-, c⟩
    · rw [c, alow1] at h
      subst es
      have g := wb_f (c := (1 : Int32) = 0) (by decide) g
      obtain ⟨R, hR, h⟩ := oki h
      refine ⟨R, hR, ?_⟩
      obtain ⟨r3, e3, h⟩ := wb_b h
      obtain ⟨t1, t2, t3, t4, t5, t6, t7, t8, t9⟩ := beg (tr.cg rfl j3 rfl rfl) n0 n1 e3 f7
      rw [j0] at t8
      have k1 : s7.1 1 = J 1 := ((fr_fX12_steps f7).1 1 (by decide)).trans j1
      have k2 : s7.1 2 = J 2 := ((fr_fX12_steps f7).1 2 (by decide)).trans j2
      obtain ⟨I4, eI4, h⟩ := wb_v h
      obtain ⟨M5, eM5, h⟩ := wb_v h
      have m5 : M5 = M := by
        rw [eM5, t3]
        funext k
        by_cases hk : k < 1
        · exact wbi_lt hk
        · exact wbi_ge (Or.inr (by omega))
      rw [m5] at h
      obtain ⟨r6, e6, h⟩ := wb_b h
      obtain ⟨p1, p2, p3, p4, p5⟩ := cpF e6
      obtain ⟨I7, eI7, h⟩ := wb_v h
      obtain ⟨M8, eM8, h⟩ := wb_v h
      obtain ⟨r9, e9, h⟩ := wb_b h
      have i4 : ∀ k, k < 9 → I4 k = r3.1 k := fun k hk => by rw [eI4]; exact wbi_lt hk
      have i49 : ∀ k, 9 ≤ k → I4 k = I k := fun k hk => by rw [eI4]; exact wbi_ge (Or.inr (by omega))
      have i7 : ∀ k, k < 11 → I7 k = I4 k := fun k hk => by rw [eI7]; exact wbi_ge (Or.inl hk)
      have i711 : I7 11 = I 9 := by
        rw [eI7, wbi_in (by decide) (by decide)]
        exact p1.trans (i49 9 (by decide))
      have i712 : I7 12 = I 10 := by
        rw [eI7, wbi_in (by decide) (by decide)]
        exact p2.trans (i49 10 (by decide))
      have m8 : ∀ k, k < 7 → M8 k = M k := fun k hk => by rw [eM8]; exact wbi_ge (Or.inl hk)
      have m87 : ∀ k, k < 6 → M8 (7 + k) = r6.2 k := fun k hk => by
        rw [eM8, wbi_in (by omega) (by omega), show 7 + k - 7 = k by omega]
      -- the reference's draft
      obtain ⟨J21, e21, g⟩ := wb_v g
      obtain ⟨J22, e22, g⟩ := wb_v g
      rw [e21] at e22
      obtain ⟨x23, f23, g⟩ := wb_b g
      obtain ⟨K24, q24, g⟩ := wb_v g
      obtain ⟨x25, f25, g⟩ := wb_b g
      obtain ⟨K26, q26, g⟩ := wb_v g
      obtain ⟨x27, f27, g⟩ := wb_b g
      obtain ⟨K28, q28, g⟩ := wb_v g
      obtain ⟨x29, f29, g⟩ := wb_b g
      obtain ⟨K30, q30, g⟩ := wb_v g
      obtain ⟨x31, f31, g⟩ := wb_b g
      obtain ⟨K32, q32, g⟩ := wb_v g
      obtain ⟨x33, f33, g⟩ := wb_b g
      obtain ⟨K34, q34, g⟩ := wb_v g
      obtain ⟨x35, f35, g⟩ := wb_b g
      obtain ⟨K36, q36, g⟩ := wb_v g
      have d23 := cp12 (by decide) f23
      have d25 := cp12 (by decide) f25
      have d27 := cp12 (by decide) f27
      have d29 := cp12 (by decide) f29
      have d31 := cp12 (by decide) f31
      have d33 := cp12 (by decide) f33
      have d35 := cp12 (by decide) f35
      rw [t4] at q24 d23
      have z24 : ∀ k, k ≠ 9 → K24 k = K k := fun k hk => by rw [q24]; exact if_neg hk
      have z26 : ∀ k, k ≠ 10 → K26 k = K24 k := fun k hk => by rw [q26]; exact if_neg hk
      have z28 : ∀ k, k ≠ 11 → K28 k = K26 k := fun k hk => by rw [q28]; exact if_neg hk
      have z30 : ∀ k, k ≠ 12 → K30 k = K28 k := fun k hk => by rw [q30]; exact if_neg hk
      have z32 : ∀ k, k ≠ 13 → K32 k = K30 k := fun k hk => by rw [q32]; exact if_neg hk
      have z34 : ∀ k, k ≠ 14 → K34 k = K32 k := fun k hk => by rw [q34]; exact if_neg hk
      have z36 : ∀ k, k ≠ 15 → K36 k = K34 k := fun k hk => by rw [q36]; exact if_neg hk
      have zlo : ∀ k, k < 9 → K36 k = K k := fun k hk => by
        rw [z36 k (by omega), z34 k (by omega), z32 k (by omega), z30 k (by omega), z28 k (by omega), z26 k (by omega), z24 k (by omega)]
      have w9 : K36 9 = x23 := by
        rw [z36 9 (by decide), z34 9 (by decide), z32 9 (by decide), z30 9 (by decide), z28 9 (by decide), z26 9 (by decide), q24]; rfl
      have w10 : K36 10 = x25 := by
        rw [z36 10 (by decide), z34 10 (by decide), z32 10 (by decide), z30 10 (by decide), z28 10 (by decide), q26]; rfl
      have w11 : K36 11 = x27 := by
        rw [z36 11 (by decide), z34 11 (by decide), z32 11 (by decide), z30 11 (by decide), q28]; rfl
      have w12 : K36 12 = x29 := by
        rw [z36 12 (by decide), z34 12 (by decide), z32 12 (by decide), q30]; rfl
      have w13 : K36 13 = x31 := by
        rw [z36 13 (by decide), z34 13 (by decide), q32]; rfl
      have w14 : K36 14 = x33 := by
        rw [z36 14 (by decide), q34]; rfl
      have w15 : K36 15 = x35 := by
        rw [q36]; rfl
      rw [z24 1 (by decide)] at d25
      rw [z26 2 (by decide), z24 2 (by decide)] at d27
      rw [z28 3 (by decide), z26 3 (by decide), z24 3 (by decide)] at d29
      rw [z30 4 (by decide), z28 4 (by decide), z26 4 (by decide), z24 4 (by decide)] at d31
      rw [z32 5 (by decide), z30 5 (by decide), z28 5 (by decide), z26 5 (by decide), z24 5 (by decide)] at d33
      rw [z34 6 (by decide), z32 6 (by decide), z30 6 (by decide), z28 6 (by decide), z26 6 (by decide), z24 6 (by decide)] at d35
      obtain ⟨a1, a2, a3, a4, a5, a6, a7⟩ := ht
      have x13 : J22 13 = J 1 := by
        rw [e22]
        show s7.1 1 = _
        exact k1
      have x14 : J22 14 = J 2 := by
        rw [e22]
        show s7.1 2 = _
        exact k2
      have hn0 : HN (wb_sh I7 11) (wb_sh M8 7) J22 K36 := by
        unfold HN H4
        rw [x13, x14, w9, w10, w11, w12, w13, w14, w15]
        refine ⟨?_, ?_, a3, a4, ?_, ?_, ?_⟩
        · show I7 11 = _
          rw [i711]; exact a1
        · show I7 12 = _
          rw [i712]; exact a2
        · intro j hj
          show (M8 (7 + 0) j = _ ∧ M8 (7 + 1) j = _ ∧ M8 (7 + 2) j = _ ∧ M8 (7 + 3) j = _) ∧ _
          obtain ⟨⟨b1, b2, b3, b4⟩, br⟩ := a5 j hj
          obtain ⟨c1, c2, c3, c4⟩ := p3 j hj
          rw [m87 0 (by decide), m87 1 (by decide), m87 2 (by decide), m87 3 (by decide), c1, c2, c3, c4, d23 j hj, d25 j hj, d27 j hj, d29 j hj]
          exact ⟨⟨b1, b2, b3, b4⟩, br⟩
        · show HC (M8 (7 + 4)) _ _
          rw [m87 4 (by decide)]
          exact a6.cg a3.2 (fun j hj => p4 j hj) (fun j hj => d31 j hj)
        · show HH (M8 (7 + 5)) _ _ _
          rw [m87 5 (by decide)]
          exact a7.cg a4.2 (fun j hj => p5 j hj) (fun j hj => d35 j hj) (fun j hj => d33 j hj)
      have i79 : ∀ k, k < 9 → I7 k = r3.1 k := fun k hk => (i7 k (by omega)).trans (i4 k hk)
      have tk7 : TK I7 J22 s7.2.1 M8 K36 := by
        have : TK I7 s7.1 s7.2.1 M8 K := t1.cg i79 (m8 0 (by decide))
        rw [e22]
        exact (this.cgK (zlo 8 (by decide)))
      unfold fX5_readLines at e9
      have e9b := e9
      obtain ⟨J', L', K', g3, v1, v2, v3⟩ := linl N N2 0 (wb_sh I7 11) (wb_sh M8 7) I7 J22 s7.2.1 K36 r9 S e9 g tk7 (by rw [e22]; exact t2) hn0 (by
        unfold PsT at t5 ⊢
        rw [i79 4 (by decide), i79 2 (by decide), i79 3 (by decide)]
        exact t5) (by
        have := tk7.2.2.2.1
        omega) (by omega)
      have y0 : J' 0 = 0 := by
        rw [v2.1 0 (by decide), e22]; exact t8
      have y1 : J' 1 = J 1 := by
        rw [v2.1 1 (by decide), e22]; exact k1
      have y2 : J' 2 = J 2 := by
        rw [v2.1 2 (by decide), e22]; exact k2
      have y3 : J' 3 = 0 := by
        rw [v2.1 3 (by decide), e22]; exact t9
      have yk : ∀ k, k < 9 → K' k = K k := fun k hk => (v2.2 k hk).trans (zlo k hk)
      obtain ⟨I10, eI10, h⟩ := wb_v h
      obtain ⟨M11, eM11, h⟩ := wb_v h
      have tx := (fr_fX5_readLines (N := N) (I0 := wb_sh I7 11) (M0 := wb_sh M8 7) (I1 := I7) (M1 := M8) (R := r9) e9b).1 0 (by decide)
      have i10 : I10 0 = 0 := by
        rw [eI10, wbi_lt (by decide), tx, i79 0 (by decide)]; exact t7
      have i109 : ∀ k, 9 ≤ k → k < 11 → I10 k = I k := fun k h1 h2 => by
        rw [eI10, wbi_ge (Or.inr (by omega)), wbi_ge (Or.inl h2), i7 k h2, i49 k h1]
      have i1011 : I10 11 = r9.2.1 0 := by
        rw [eI10, wbi_ge (Or.inr (by decide)), wbi_in (by decide) (by decide)]
      have i1012 : I10 12 = r9.2.1 1 := by
        rw [eI10, wbi_ge (Or.inr (by decide)), wbi_in (by decide) (by decide)]
      have m11 : ∀ k, k < 7 → 1 ≤ k → M11 k = M k := fun k h1 h2 => by
        rw [eM11, wbi_ge (Or.inr (by omega)), wbi_ge (Or.inl h1), m8 k h1]
      have m117 : ∀ k, k < 6 → M11 (7 + k) = r9.2.2.1 k := fun k hk => by
        rw [eM11, wbi_ge (Or.inr (by omega)), wbi_in (by omega) (by omega), show 7 + k - 7 = k by omega]
      have ht0 : HT I M J K := ⟨a1, a2, a3, a4, a5, a6, a7⟩
      unfold fX12_house_J203 at g3
      obtain ⟨q1, z1, g3⟩ := wb_b g3
      rcases v3 with ⟨u1, u2, u3⟩ | ⟨u1, u2⟩
      · rw [good1 u2] at z1
        have z1 := Option.some.inj z1
        have g3 := wb_f (by rw [← z1]; decide) g3
        have h := wb_f (by rw [u1]; decide) h
        obtain ⟨r12, e12, h⟩ := wb_b h
        obtain ⟨o1, o2, o3, o4, o5⟩ := cpF e12
        obtain ⟨I13, eI13, h⟩ := wb_v h
        obtain ⟨M14, eM14, h⟩ := wb_v h
        have h := Option.some.inj h
        subst h
        obtain ⟨JA, eA, g3⟩ := wb_v g3
        obtain ⟨JB, eB, g3⟩ := wb_v g3
        rw [eA] at eB
        obtain ⟨c1, l1, g3⟩ := wb_b g3
        obtain ⟨KA, qA, g3⟩ := wb_v g3
        obtain ⟨c2, l2, g3⟩ := wb_b g3
        obtain ⟨KB, qB, g3⟩ := wb_v g3
        obtain ⟨c3, l3, g3⟩ := wb_b g3
        obtain ⟨KC, qC, g3⟩ := wb_v g3
        obtain ⟨c4, l4, g3⟩ := wb_b g3
        obtain ⟨KD, qD, g3⟩ := wb_v g3
        obtain ⟨c5, l5, g3⟩ := wb_b g3
        obtain ⟨KE, qE', g3⟩ := wb_v g3
        obtain ⟨c6, l6, g3⟩ := wb_b g3
        obtain ⟨KF, qF, g3⟩ := wb_v g3
        obtain ⟨c7, l7, g3⟩ := wb_b g3
        obtain ⟨KG, qG, g3⟩ := wb_v g3
        have g3 := Option.some.inj g3
        subst g3
        have l1 := cp12 (by decide) l1
        have l2 := cp12 (by decide) l2
        have l3 := cp12 (by decide) l3
        have l4 := cp12 (by decide) l4
        have l5 := cp12 (by decide) l5
        have l6 := cp12 (by decide) l6
        have l7 := cp12 (by decide) l7
        have zA : ∀ k, k ≠ 0 → KA k = K' k := fun k hk => by rw [qA]; exact if_neg hk
        have zB : ∀ k, k ≠ 1 → KB k = KA k := fun k hk => by rw [qB]; exact if_neg hk
        have zC : ∀ k, k ≠ 2 → KC k = KB k := fun k hk => by rw [qC]; exact if_neg hk
        have zD : ∀ k, k ≠ 3 → KD k = KC k := fun k hk => by rw [qD]; exact if_neg hk
        have zE : ∀ k, k ≠ 4 → KE k = KD k := fun k hk => by rw [qE']; exact if_neg hk
        have zF : ∀ k, k ≠ 5 → KF k = KE k := fun k hk => by rw [qF]; exact if_neg hk
        have zG : ∀ k, k ≠ 6 → KG k = KF k := fun k hk => by rw [qG]; exact if_neg hk
        have y_0 : KG 0 = c1 := by
          rw [zG 0 (by decide), zF 0 (by decide), zE 0 (by decide), zD 0 (by decide), zC 0 (by decide), zB 0 (by decide), qA]; rfl
        have y_1 : KG 1 = c2 := by
          rw [zG 1 (by decide), zF 1 (by decide), zE 1 (by decide), zD 1 (by decide), zC 1 (by decide), qB]; rfl
        have y_2 : KG 2 = c3 := by
          rw [zG 2 (by decide), zF 2 (by decide), zE 2 (by decide), zD 2 (by decide), qC]; rfl
        have y_3 : KG 3 = c4 := by
          rw [zG 3 (by decide), zF 3 (by decide), zE 3 (by decide), qD]; rfl
        have y_4 : KG 4 = c5 := by
          rw [zG 4 (by decide), zF 4 (by decide), qE']; rfl
        have y_5 : KG 5 = c6 := by
          rw [zG 5 (by decide), qF]; rfl
        have y_6 : KG 6 = c7 := by
          rw [qG]; rfl
        rw [zA 10 (by decide)] at l2
        rw [zB 11 (by decide), zA 11 (by decide)] at l3
        rw [zC 12 (by decide), zB 12 (by decide), zA 12 (by decide)] at l4
        rw [zD 13 (by decide), zC 13 (by decide), zB 13 (by decide), zA 13 (by decide)] at l5
        rw [zE 14 (by decide), zD 14 (by decide), zC 14 (by decide), zB 14 (by decide), zA 14 (by decide)] at l6
        rw [zF 15 (by decide), zE 15 (by decide), zD 15 (by decide), zC 15 (by decide), zB 15 (by decide), zA 15 (by decide)] at l7
        obtain ⟨b1, b2, b3, b4, b5, b6, b7⟩ := u3
        have i13 : ∀ k, k < 9 → I13 k = I10 k := fun k hk => by rw [eI13]; exact wbi_ge (Or.inl hk)
        have i139 : I13 9 = r9.2.1 0 := by
          rw [eI13, wbi_in (by decide) (by decide)]
          exact o1.trans i1011
        have i1310 : I13 10 = r9.2.1 1 := by
          rw [eI13, wbi_in (by decide) (by decide)]
          exact o2.trans i1012
        have m14 : ∀ k, k < 6 → M14 (1 + k) = r12.2 k := fun k hk => by
          rw [eM14, wbi_in (by omega) (by omega), show 1 + k - 1 = k by omega]
        have jb1 : JB 1 = J' 13 := by rw [eB]; rfl
        have jb2 : JB 2 = J' 14 := by rw [eB]; rfl
        refine ⟨?_, ?_, ?_, ?_⟩
        · show JB 0 = 0
          rw [eB]; exact y0
        · show I13 0 = 0
          rw [i13 0 (by decide)]; exact i10
        · show JB 3 = 0
          rw [eB]; exact y3
        · show HT I13 M14 JB KG
          unfold HT
          rw [jb1, jb2, i139, i1310, y_0, y_1, y_2, y_3, y_4, y_5, y_6]
          refine ⟨b1, b2, b3, b4, ?_, ?_, ?_⟩
          · intro j hj
            show (M14 (1 + 0) j = _ ∧ M14 (1 + 1) j = _ ∧ M14 (1 + 2) j = _ ∧ M14 (1 + 3) j = _) ∧ _
            obtain ⟨⟨d1, d2, d3, d4⟩, dr⟩ := b5 j hj
            obtain ⟨f1, f2, f3, f4⟩ := o3 j hj
            rw [m14 0 (by decide), m14 1 (by decide), m14 2 (by decide), m14 3 (by decide), f1, f2, f3, f4, l1 j hj, l2 j hj, l3 j hj, l4 j hj]
            show (M11 (7 + 0) j = _ ∧ M11 (7 + 1) j = _ ∧ M11 (7 + 2) j = _ ∧ M11 (7 + 3) j = _) ∧ _
            rw [m117 0 (by decide), m117 1 (by decide), m117 2 (by decide), m117 3 (by decide)]
            exact ⟨⟨d1, d2, d3, d4⟩, dr⟩
          · show HC (M14 (1 + 4)) _ _
            rw [m14 4 (by decide)]
            refine b6.cg b3.2 (fun j hj => ?_) (fun j hj => l5 j hj)
            rw [o4 j hj]
            show M11 (7 + 4) j = _
            rw [m117 4 (by decide)]
          · show HH (M14 (1 + 5)) _ _ _
            rw [m14 5 (by decide)]
            refine b7.cg b4.2 (fun j hj => ?_) (fun j hj => l7 j hj) (fun j hj => l6 j hj)
            rw [o5 j hj]
            show M11 (7 + 5) j = _
            rw [m117 5 (by decide)]
      · rw [good2 u2] at z1
        have z1 := Option.some.inj z1
        have g3 := Option.some.inj (wb_t z1.symm g3)
        subst g3
        have h := Option.some.inj (wb_t u1 h)
        subst h
        refine ⟨y0, i10, y3, ?_⟩
        exact ht0.cg (i109 9 (by decide) (by decide)) (i109 10 (by decide) (by decide)) m11 y1 y2 (fun k hk => yk k (by omega))
    · exfalso
      apply c
      rw [ei, ← j3]
      exact ⟨n0, n1⟩
  · left
    rcases c with ⟨-, c⟩ | ⟨c, -⟩
    · exfalso
      apply hn
      rw [j3, ← ei]
      exact c
    · rw [c, alow0] at h
      subst es
      have g := Option.some.inj (wb_t (c := (0 : Int32) = 0) rfl g)
      subst g
      refine ⟨(Option.some.inj h).symm, ?_, ?_, ?_, ?_, rfl⟩
      · show (if J19 12 = 0 then (1 : Int32) else 2) = 1
        rw [if_pos j12]
      · exact j1
      · exact j2
      · exact j3

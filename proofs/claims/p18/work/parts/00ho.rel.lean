theorem n14c {N : Nat} {J : Nat → Int32} {L : Int64} {K : Nat → Nat → Int32} {S : (Nat → Int32) × Int64 × (Nat → Nat → Int32)} (j4 : ¬ J 4 = 0) (h : fX12_readsClimate_J14 N J L K = some S) : S = (J, L, K) := by
  unfold fX12_readsClimate_J14 at h
  rw [good2 j4, Option.bind_some] at h
  exact (Option.some.inj (wb_t (c := (0 : Int32) = 0) rfl h)).symm
theorem clil {N N2 : Nat} {M K M0 : Nat → Nat → Int32} {I J I0 : Nat → Int32} {L : Int64} {R : Int32 × (Nat → Int32) × (Nat → Nat → Int32) × (Nat → Int32) × (Nat → Nat → Int32)} {S S2 : (Nat → Int32) × Int64 × (Nat → Nat → Int32)} (tk : TK I J L M K) (j4 : J 4 = 0) (hn : I0 0 = J 13) (h0 : 0 ≤ (J 13).toInt) (h7 : (J 13).toInt ≤ 7) (d : HC (M0 0) (J 13).toInt (K 13)) (h : fX2_readClimate N I0 M0 I M = some R) (g : fX12_readsClimate N2 J L K = some S) (g2 : (if S.1 8 = 3 then fX12_need N2 S.1 S.2.1 S.2.2 1 else fX12_need N2 S.1 S.2.1 S.2.2 0) = some S2) :
    (R.1 = 0 ∧ ¬ S2.1 4 = 0) ∨ (R.1 = 1 ∧ LnE I M R.2.2.2.1 R.2.2.2.2 S2 ∧ S2.2.2 = S.2.2 ∧ R.2.1 0 = S.1 13 ∧ S2.1 13 = S.1 13 ∧ (S.1 13).toInt ≤ 7 ∧ 0 ≤ (S.1 13).toInt ∧ HC (R.2.2.1 0) (S.1 13).toInt (S.2.2 13)) := by
  unfold fX2_readClimate at h
  unfold fX12_readsClimate at g
  rcases ifr h with ⟨c, h⟩ | ⟨c, h⟩
  · have c := (lt32 (by rw [hn]) (by decide : (7 : Int32).toInt = 7)).mp c
    have g := wb_f (fun z => by
      have := (eq32 (a := J 13) rfl (by decide : (7 : Int32).toInt = 7)).mp z
      omega) g
    unfold fX12_readsClimate_J14 at g
    rw [good1 j4, Option.bind_some] at g
    have g := wb_f (c := (1 : Int32) = 0) (by decide) g
    obtain ⟨r1, e1, h⟩ := wb_b h
    obtain ⟨s4, f4, g⟩ := wb_b g
    obtain ⟨t1, t2, t3, t4, t5, t6, t7⟩ := st_all e1 f4 tk.1 j4
    rw [t3] at h
    rw [t4] at g
    obtain ⟨r2, e2, h⟩ := wb_b h
    obtain ⟨s5, f5, g⟩ := wb_b g
    have j13 : s4.1 13 = J 13 := (fr_fX12_steps f4).1 13 (by decide)
    have f5' := f5
    rw [j13] at f5
    rw [hn] at e2
    rcases num_tk t1 t2 e2 f5 with ⟨c1, c2, c3, c4, c5, c6, c7, c8, c9, c10⟩ | ⟨c1, c2, c3, c4⟩
    · have h := wb_f (by rw [c1]; decide) h
      rw [c7] at h
      rw [c8] at g
      obtain ⟨r3, e3, h⟩ := wb_b h
      unfold fX2_readRising at e3
      have k13 : s5.2.1 13 = J 13 := ((fr_fX12_number f5).1 13 (by decide)).trans j13
      have ec : J 13 = nI (J 13).toInt.toNat := by
        apply t32
        rw [nI_toInt (by omega)]
        omega
      have ecz : ((J 13).toInt.toNat : Int) = (J 13).toInt := by omega
      have res := risl (M := M) (c := (J 13).toInt.toNat) (by omega) N N2 0 I0 r2.2.1 M0 s5.2.1 s5.2.2.1 K 0 r3 S e3 g (by omega) c2 c3 (hn.trans ec) (k13.trans ec) (by rw [ecz]; exact d) (by
        intro s hs
        have hs0 : s = 0 := by omega
        subst hs0
        rw [Nat.add_zero]
        exact d.1 _ (by omega)) (show (0 : Int32).toInt = 0 from by decide) (by decide) (by decide)
      rcases res with ⟨w1, w2⟩ | ⟨w1, w3, w4, w5, w6, w7, w8, w9⟩
      · have h := Option.some.inj (wb_t w1 h)
        subst h
        exact Or.inl ⟨rfl, stop_n w2 g2⟩
      · have h := wb_f (by rw [w1]; decide) h
        obtain ⟨I4, eI4, h⟩ := wb_v h
        obtain ⟨r5, e5, h⟩ := wb_b h
        have h := Option.some.inj (wb_y h).2
        subst h
        have lo : LO I M (1 : Int32) r3.2.2.2.1 r3.2.2.2.2 S := by
          refine ⟨w3, w4, w6, ?_⟩
          have y1 := t1.2.2.2.2.1
          have y2 := c2.2.2.2.2.1
          omega
        rcases stopl lo e5 g2 with ⟨x1, x2⟩ | ⟨x1, x2, x3⟩
        · exact Or.inl ⟨x1, x2⟩
        · have tt : (nI ((J 13).toInt.toNat + 1)).toInt = (J 13).toInt + 1 := by
            rw [nI_toInt (by omega)]; omega
          refine Or.inr ⟨x1, x2, x3, ?_, ?_, ?_, ?_, ?_⟩
          · show I4 0 = S.1 13
            rw [eI4, w5, w7]
            show I0 0 + 1 = _
            rw [hn]
            apply t32
            rw [inc32 (by omega), tt]
          · rcases ifr g2 with ⟨-, g2⟩ | ⟨-, g2⟩
            · exact (fr_fX12_need g2).1 13 (by decide)
            · exact (fr_fX12_need g2).1 13 (by decide)
          · rw [w5, tt]; omega
          · rw [w5, tt]; omega
          · rw [w5, tt]
            show HC (r3.2.2.1 0) _ _
            rw [← ecz]
            exact w8
    · left
      have h := Option.some.inj (wb_t c1 h)
      subst h
      refine ⟨rfl, stop_n ?_ g2⟩
      rw [n43 c4.2 g]
      exact c4.2
  · left
    have c : ¬ _ := fun z => c ((lt32 (by rw [hn]) (by decide : (7 : Int32).toInt = 7)).mpr z)
    obtain ⟨r6, e6, h⟩ := wb_b h
    have e6 := refu e6
    subst e6
    have h := Option.some.inj (wb_y h).2
    subst h
    refine ⟨rfl, stop_n ?_ g2⟩
    have g := wb_t ((eq32 (a := J 13) rfl (by decide : (7 : Int32).toInt = 7)).mpr (by omega)) g
    obtain ⟨s, f, g⟩ := wb_b g
    have f := wrg0 j4 f
    subst f
    have g := n14c (J := upd (upd J 4 2) 5 (J 9)) (show ¬ (2 : Int32) = 0 by decide) g
    subst g
    show ¬ (2 : Int32) = 0
    decide
/-- what a HOUSE told, as it is being read, of both -/
def HN (i : Nat → Int32) (m : Nat → Nat → Int32) (J : Nat → Int32) (K : Nat → Nat → Int32) : Prop := i 0 = J 13 ∧ i 1 = J 14 ∧ (0 ≤ (J 13).toInt ∧ (J 13).toInt ≤ 7) ∧ (0 ≤ (J 14).toInt ∧ (J 14).toInt ≤ 30) ∧ H4 m K ∧ HC (m 4) (J 13).toInt (K 13) ∧ HH (m 5) (J 14).toInt (K 15) (K 14)
def FrK (J J' : Nat → Int32) (K K' : Nat → Nat → Int32) : Prop := (∀ k, k < 4 → J' k = J k) ∧ ∀ k, k < 9 → K' k = K k
theorem FrK.tr {J J' J'' : Nat → Int32} {K K' K'' : Nat → Nat → Int32} (h : FrK J' J'' K' K'') (g : FrK J J' K K') : FrK J J'' K K'' := ⟨fun k hk => (h.1 k hk).trans (g.1 k hk), fun k hk => (h.2 k hk).trans (g.2 k hk)⟩
theorem FrK.of {J J' : Nat → Int32} {K K' : Nat → Nat → Int32} {V W : List Nat} (h : Eqo V J' J ∧ Eqo W K' K) (hv : ∀ k, k < 4 → ¬ k ∈ V) (hw : ∀ k, k < 9 → ¬ k ∈ W) : FrK J J' K K' := ⟨fun k hk => h.1 k (hv k hk), fun k hk => h.2 k (hw k hk)⟩
theorem need_fr {N : Nat} {S S2 : (Nat → Int32) × Int64 × (Nat → Nat → Int32)} (g : (if S.1 8 = 3 then fX12_need N S.1 S.2.1 S.2.2 1 else fX12_need N S.1 S.2.1 S.2.2 0) = some S2) : Eqo fwI_X12_need S2.1 S.1 ∧ Eqo fwM_X12_need S2.2.2 S.2.2 := by
  rcases ifr g with ⟨-, g⟩ | ⟨-, g⟩
  · exact fr_fX12_need g
  · exact fr_fX12_need g
theorem j183 {N : Nat} {x : Int32} {gg : (Nat → Int32) → Int64 → (Nat → Nat → Int32) → Option (Int32 × (Nat → Int32) × Int64 × (Nat → Nat → Int32))} {S : (Nat → Int32) × Int64 × (Nat → Nat → Int32)} {T : Int32 × (Nat → Int32) × Int64 × (Nat → Nat → Int32)} (h : fX12_house_J183 N x gg S.1 S.2.1 S.2.2 = some T) : ∃ S2, (if S.1 8 = 3 then fX12_need N S.1 S.2.1 S.2.2 1 else fX12_need N S.1 S.2.1 S.2.2 0) = some S2 ∧ gg S2.1 S2.2.1 S2.2.2 = some T := by
  unfold fX12_house_J183 at h
  rcases ifr h with ⟨c, h⟩ | ⟨c, h⟩
  · obtain ⟨r, e, h⟩ := wb_b h
    exact ⟨r, by rw [if_pos c]; exact e, h⟩
  · obtain ⟨r, e, h⟩ := wb_b h
    exact ⟨r, by rw [if_neg c]; exact e, h⟩
/-- a refused LINE ends both -/
theorem l_end {N fu y : Nat} {I0 I : Nat → Int32} {M0 M : Nat → Nat → Int32} {v : Int32} {R : Int32 × (Nat → Int32) × (Nat → Nat → Int32) × (Nat → Int32) × (Nat → Nat → Int32)} (hv : v = 0) (h : fX5_readLines_L4 N fu I0 M0 I M v (nI y) = some R) : R = (0, I0, M0, I, M) := by
  subst hv
  cases fu with
  | zero => cases (show none = some R from h)
  | succ fu =>
    rw [fX5_readLines_L4.eq_2] at h
    rcases ifr h with ⟨-, h⟩ | ⟨-, h⟩
    · exact (Option.some.inj (wb_y h).2).symm
    · have h := wb_t (c := (0 : Int32) = 0) rfl h
      exact (Option.some.inj (wb_y h).2).symm
theorem r_end {N fv : Nat} {x : Int32} {J : Nat → Int32} {L : Int64} {K : Nat → Nat → Int32} {T : Int32 × (Nat → Int32) × Int64 × (Nat → Nat → Int32)} (j4 : ¬ J 4 = 0) (h : fX12_house_L120 N x fv J L K = some T) : fX12_house_J203 N x J L K = some T := by
  cases fv with
  | zero => cases (show none = some T from h)
  | succ fv =>
    rw [fX12_house_L120.eq_2] at h
    rw [good2 j4, Option.bind_some] at h
    exact wb_t (c := (0 : Int32) = 0) rfl h
theorem linl {N N2 : Nat} {x : Int32} {M : Nat → Nat → Int32} : ∀ (fu fv y : Nat) (I0 : Nat → Int32) (M0 : Nat → Nat → Int32) (I J : Nat → Int32) (L : Int64) (K : Nat → Nat → Int32) R T, fX5_readLines_L4 N fu I0 M0 I M 1 (nI y) = some R → fX12_house_L120 N2 x fv J L K = some T → TK I J L M K → J 4 = 0 → HN I0 M0 J K → PsT I → (y : Int) ≤ (I 2).toInt → y ≤ 600 →
    ∃ J' L' K', fX12_house_J203 N2 x J' L' K' = some T ∧ R.2.2.2.2 = M ∧ FrK J J' K K' ∧ ((R.1 = 1 ∧ J' 4 = 0 ∧ HN R.2.1 R.2.2.1 J' K') ∨ (R.1 = 0 ∧ ¬ J' 4 = 0)) := by
  intro fu
  induction fu with
  | zero => intro fv y I0 M0 I J L K R T h; cases (show none = some R from h)
  | succ fu ih =>
    intro fv y I0 M0 I J L K R T h g tk j4 hn ps hy hy6
    cases fv with
    | zero => cases (show none = some T from g)
    | succ fv =>
      rw [fX5_readLines_L4.eq_2] at h
      rw [fX12_house_L120.eq_2] at g
      rw [good1 j4, Option.bind_some] at g
      have g := wb_f (c := (1 : Int32) = 0) (by decide) g
      have tk2 := tk
      obtain ⟨q, b1, b2, b3, b4, b5, b6, b7⟩ := tk2
      have q4 := q.2.2.2.1
      have q5 := q.2.2.2.2.1
      have ty : (nI y).toInt = (y : Int) := nI_toInt (by omega)
      have fin : I 4 = 0 → R = (1, I0, M0, I, M) → ∃ J' L' K', fX12_house_J203 N2 x J' L' K' = some T ∧ R.2.2.2.2 = M ∧ FrK J J' K K' ∧ ((R.1 = 1 ∧ J' 4 = 0 ∧ HN R.2.1 R.2.2.1 J' K') ∨ (R.1 = 0 ∧ ¬ J' 4 = 0)) := by
        intro h0 eR
        subst eR
        have g := wb_t (b2.symm.trans h0) g
        exact ⟨J, L, K, g, rfl, ⟨fun _ _ => rfl, fun _ _ => rfl⟩, Or.inl ⟨rfl, j4, hn⟩⟩
      rcases ifr h with ⟨c, h⟩ | ⟨c, h⟩
      · have c := (le32 (x := 600) (by decide) ty).mp c
        refine fin ?_ (Option.some.inj (wb_y h).2).symm
        refine Decidable.byContradiction (fun z => ?_)
        have := ps z
        omega
      · have c : ¬ _ := fun z => c ((le32 (x := 600) (by decide) ty).mpr z)
        have h := wb_f (c := (1 : Int32) = 0) (by decide) h
        obtain ⟨r1, e1, h⟩ := wb_b h
        rcases atEnd e1 with ⟨c1, c2⟩ | ⟨c1, c2⟩
        · have h := wb_f (by rw [c1]; decide) h
          exact fin c2 (Option.some.inj (wb_y h).2).symm
        · have h := wb_t c1 h
          have g := wb_f (fun z => c2 (b2.trans z)) g
          have ps2 := ps c2
          obtain ⟨s40, f40, g⟩ := wb_b g
          have kk := kw tk f40
          obtain ⟨n1, n2, n3, n4, n5, n6, n7⟩ := hn
          -- what is left to do behind a LINE
          have step : ∀ (RI0 : Nat → Int32) (RM0 : Nat → Nat → Int32) (RI : Nat → Int32) (RM : Nat → Nat → Int32) (v v7 : Int32) (S S2 : (Nat → Int32) × Int64 × (Nat → Nat → Int32)), v7 = nI y + 1 → fX5_readLines_L4 N fu RI0 RM0 RI RM v v7 = some R → fX12_house_L120 N2 x fv S2.1 S2.2.1 S2.2.2 = some T → FrK J S2.1 K S2.2.2 → RM = M → ((v = 0 ∧ ¬ S2.1 4 = 0) ∨ (v = 1 ∧ LnE I M RI RM S2 ∧ HN RI0 RM0 S2.1 S2.2.2)) → ∃ J' L' K', fX12_house_J203 N2 x J' L' K' = some T ∧ R.2.2.2.2 = M ∧ FrK J J' K K' ∧ ((R.1 = 1 ∧ J' 4 = 0 ∧ HN R.2.1 R.2.2.1 J' K') ∨ (R.1 = 0 ∧ ¬ J' 4 = 0)) := by
            intro RI0 RM0 RI RM v v7 S S2 ev h g fr em w
            rw [ev, nI_1] at h
            rcases w with ⟨w1, w2⟩ | ⟨w1, w2, w3⟩
            · have h := l_end w1 h
              have g := r_end w2 g
              subst h
              exact ⟨_, _, _, g, em, fr, Or.inr ⟨rfl, w2⟩⟩
            · rw [w1, em] at h
              obtain ⟨z1, z2, z3, z4, z5⟩ := w2
              obtain ⟨J', L', K', t1, t2, t3, t4⟩ := ih fv (y + 1) RI0 RM0 RI S2.1 S2.2.1 S2.2.2 R T h g z1 z2 w3 z5 (by omega) (by omega)
              exact ⟨J', L', K', t1, t2, t3.tr fr, t4⟩
          obtain ⟨r2, e2, h⟩ := wb_b h
          rcases isw (w := 3) (by decide) b3 b4 (by omega) e2 with ⟨d1, d2⟩ | ⟨d1, d2⟩
          · -- a set
            have h := wb_f (by rw [d1]; decide) h
            have g := wb_t ((kk.1 11 (by decide)).mpr d2) g
            obtain ⟨r18, e18, h⟩ := wb_b h
            obtain ⟨v19, e19, h⟩ := wb_v h
            obtain ⟨v20, e20, h⟩ := wb_v h
            obtain ⟨s44, f44, g⟩ := wb_b g
            obtain ⟨S2, g2, g⟩ := j183 g
            have fa := fr_fX12_readsSet f44
            have fb := need_fr g2
            have fr : FrK J S2.1 K S2.2.2 := (FrK.of fb (by decide) (by decide)).tr (FrK.of fa (by decide) (by decide))
            have em : r18.2.2.2.2 = M := (fr_fX5_readSet e18).2.nil
            refine step r18.2.1 r18.2.2.1 r18.2.2.2.1 r18.2.2.2.2 v19 v20 s44 S2 e20 h g fr em ?_
            rw [e19]
            rcases setl tk j4 n5 e18 f44 g2 with w | ⟨w1, w2, w3, w4, w5, w6, w7⟩
            · exact Or.inl w
            · refine Or.inr ⟨w1, w2, ?_⟩
              have j13 : S2.1 13 = J 13 := (fb.1 13 (by decide)).trans (fa.1 13 (by decide))
              have j14 : S2.1 14 = J 14 := (fb.1 14 (by decide)).trans (fa.1 14 (by decide))
              have k13 : S2.2.2 13 = K 13 := (fb.2 13 (by decide)).trans (fa.2 13 (by decide))
              have k14 : S2.2.2 14 = K 14 := (fb.2 14 (by decide)).trans (fa.2 14 (by decide))
              have k15 : S2.2.2 15 = K 15 := (fb.2 15 (by decide)).trans (fa.2 15 (by decide))
              unfold HN
              rw [j13, j14, k13, k14, k15, w4, w5, w6]
              exact ⟨n1, n2, n3, n4, w7, n6, n7⟩
          · have h := wb_t d1 h
            have g := wb_f (fun z => d2 ((kk.1 11 (by decide)).mp z)) g
            obtain ⟨r3, e3, h⟩ := wb_b h
            rcases isw (w := 4) (by decide) b3 b4 (by omega) e3 with ⟨d3, d4⟩ | ⟨d3, d4⟩
            · -- a climate
              have h := wb_f (by rw [d3]; decide) h
              have g := wb_t ((kk.1 16 (by decide)).mpr d4) g
              obtain ⟨r13, e13, h⟩ := wb_b h
              obtain ⟨I14, eI14, h⟩ := wb_v h
              obtain ⟨M15, eM15, h⟩ := wb_v h
              obtain ⟨v16, e16, h⟩ := wb_v h
              obtain ⟨v17, e17, h⟩ := wb_v h
              obtain ⟨s43, f43, g⟩ := wb_b g
              obtain ⟨S2, g2, g⟩ := j183 g
              have fa := fr_fX12_readsClimate f43
              have fb := need_fr g2
              have fr : FrK J S2.1 K S2.2.2 := (FrK.of fb (by decide) (by decide)).tr (FrK.of fa (by decide) (by decide))
              have em : r13.2.2.2.2 = M := (fr_fX2_readClimate e13).2.nil
              refine step I14 M15 r13.2.2.2.1 r13.2.2.2.2 v16 v17 s43 S2 e17 h g fr em ?_
              rw [e16]
              rcases clil tk j4 n1 n3.1 n3.2 n6 e13 f43 g2 with w | ⟨w1, w2, w3, w4, w5, w6, w7, w8⟩
              · exact Or.inl w
              · refine Or.inr ⟨w1, w2, ?_⟩
                have j14 : S2.1 14 = J 14 := (fb.1 14 (by decide)).trans (fa.1 14 (by decide))
                have k9 : S2.2.2 9 = K 9 := (fb.2 9 (by decide)).trans (fa.2 9 (by decide))
                have k10 : S2.2.2 10 = K 10 := (fb.2 10 (by decide)).trans (fa.2 10 (by decide))
                have k11 : S2.2.2 11 = K 11 := (fb.2 11 (by decide)).trans (fa.2 11 (by decide))
                have k12 : S2.2.2 12 = K 12 := (fb.2 12 (by decide)).trans (fa.2 12 (by decide))
                have k14 : S2.2.2 14 = K 14 := (fb.2 14 (by decide)).trans (fa.2 14 (by decide))
                have k15 : S2.2.2 15 = K 15 := (fb.2 15 (by decide)).trans (fa.2 15 (by decide))
                have i0 : I14 0 = r13.2.1 0 := by rw [eI14]; exact wbi_lt (by decide)
                have i1 : I14 1 = I0 1 := by rw [eI14]; exact wbi_ge (Or.inr (by decide))
                have mo : ∀ k, k < 4 → M15 k = M0 k := fun k hk => by rw [eM15]; exact wbi_ge (Or.inl hk)
                have m4 : M15 4 = r13.2.2.1 0 := by rw [eM15]; exact wbi_in (by decide) (by decide)
                have m5 : M15 5 = M0 5 := by rw [eM15]; exact wbi_ge (Or.inr (by decide))
                unfold HN H4
                rw [i0, i1, j14, k9, k10, k11, k12, k14, k15, m4, m5, mo 0 (by decide), mo 1 (by decide), mo 2 (by decide), mo 3 (by decide), w5, w3]
                exact ⟨w4, n2, ⟨w7, w6⟩, n4, n5, w8, n7⟩
            · have h := wb_t d3 h
              have g := wb_f (fun z => d4 ((kk.1 16 (by decide)).mp z)) g
              obtain ⟨r4, e4, h⟩ := wb_b h
              rcases isw (w := 5) (by decide) b3 b4 (by omega) e4 with ⟨d5, d6⟩ | ⟨d5, d6⟩
              · -- a hand
                have h := wb_f (by rw [d5]; decide) h
                have g := wb_t ((kk.1 17 (by decide)).mpr d6) g
                obtain ⟨r8, e8, h⟩ := wb_b h
                obtain ⟨I9, eI9, h⟩ := wb_v h
                obtain ⟨M10, eM10, h⟩ := wb_v h
                obtain ⟨v11, e11, h⟩ := wb_v h
                obtain ⟨v12, e12, h⟩ := wb_v h
                obtain ⟨s42, f42, g⟩ := wb_b g
                obtain ⟨S2, g2, g⟩ := j183 g
                have fa := fr_fX12_readsHand f42
                have fb := need_fr g2
                have fr : FrK J S2.1 K S2.2.2 := (FrK.of fb (by decide) (by decide)).tr (FrK.of fa (by decide) (by decide))
                have em : r8.2.2.2.2 = M := (fr_fX4_readHand e8).2.nil
                refine step I9 M10 r8.2.2.2.1 r8.2.2.2.2 v11 v12 s42 S2 e12 h g fr em ?_
                rw [e11]
                rcases hanl tk j4 n2 n4.1 n4.2 n7 e8 f42 g2 with w | ⟨w1, w2, w3, w4, w5, w6, w7⟩
                · exact Or.inl w
                · refine Or.inr ⟨w1, w2, ?_⟩
                  have j13 : S2.1 13 = J 13 := (fb.1 13 (by decide)).trans (fa.1 13 (by decide))
                  have k9 : S2.2.2 9 = K 9 := (fb.2 9 (by decide)).trans (fa.2 9 (by decide))
                  have k10 : S2.2.2 10 = K 10 := (fb.2 10 (by decide)).trans (fa.2 10 (by decide))
                  have k11 : S2.2.2 11 = K 11 := (fb.2 11 (by decide)).trans (fa.2 11 (by decide))
                  have k12 : S2.2.2 12 = K 12 := (fb.2 12 (by decide)).trans (fa.2 12 (by decide))
                  have k13 : S2.2.2 13 = K 13 := (fb.2 13 (by decide)).trans (fa.2 13 (by decide))
                  have i0 : I9 0 = I0 0 := by rw [eI9]; exact wbi_ge (Or.inl (by decide))
                  have i1 : I9 1 = r8.2.1 0 := by rw [eI9]; exact wbi_in (by decide) (by decide)
                  have mo : ∀ k, k < 5 → M10 k = M0 k := fun k hk => by rw [eM10]; exact wbi_ge (Or.inl hk)
                  have m5 : M10 5 = r8.2.2.1 0 := by rw [eM10]; exact wbi_in (by decide) (by decide)
                  unfold HN H4
                  rw [i0, i1, j13, k9, k10, k11, k12, k13, mo 0 (by decide), mo 1 (by decide), mo 2 (by decide), mo 3 (by decide), mo 4 (by decide), m5, w5, w3]
                  exact ⟨n1, w4, n3, w6, n5, n6, w7⟩
              · -- nothing that can stand there
                have h := wb_t d5 h
                have g := wb_f (fun z => d6 ((kk.1 17 (by decide)).mp z)) g
                obtain ⟨r5, e5, h⟩ := wb_b h
                obtain ⟨v6, e6, h⟩ := wb_v h
                obtain ⟨v7, e7, h⟩ := wb_v h
                obtain ⟨s41, f41, g⟩ := wb_b g
                have e5 := refu e5
                subst e5
                have f41 := wrg0 j4 f41
                subst f41
                obtain ⟨S2, g2, g⟩ := j183 g
                have fb := need_fr g2
                have fr : FrK J S2.1 K S2.2.2 := (FrK.of fb (by decide) (by decide)).tr ⟨fun k hk => by
                  show upd (upd J 4 1) 5 (J 9) k = J k
                  unfold upd
                  rw [if_neg (by omega), if_neg (by omega)], fun _ _ => rfl⟩
                refine step I0 M0 _ M v6 v7 (upd (upd J 4 1) 5 (J 9), L, K) S2 e7 h g fr rfl (Or.inl ⟨e6, ?_⟩)
                exact stop_n (S := (upd (upd J 4 1) 5 (J 9), L, K)) (show ¬ (1 : Int32) = 0 by decide) g2

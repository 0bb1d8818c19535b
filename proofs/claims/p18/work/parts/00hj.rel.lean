theorem xbi {α β : Type} {x : Option (Nat ⊕ α)} {f : α → Option (Nat ⊕ β)} {r : Nat ⊕ β} (h : wb_xb x f = some r) : (∃ k, x = some (.inl k) ∧ r = .inl k) ∨ ∃ a, x = some (.inr a) ∧ f a = some r := by
  match x, h with
  | none, h => cases h
  | some (.inl k), h => exact Or.inl ⟨k, rfl, (Option.some.inj h).symm⟩
  | some (.inr a), h => exact Or.inr ⟨a, rfl, h⟩
theorem oki {α : Type} {x : Option α} {r : Nat ⊕ α} (h : wb_ok x = some r) : ∃ R, r = .inr R ∧ x = some R := by
  cases x with
  | none => cases h
  | some a => exact ⟨a, (Option.some.inj h).symm, rfl⟩
/-- the tape of both -/
def TR (I J : Nat → Int32) (M K : Nat → Nat → Int32) : Prop := I 0 = J 3 ∧ 0 ≤ (I 0).toInt ∧ (I 0).toInt ≤ 600 ∧ ∀ j : Nat, (j : Int) < (I 0).toInt → BR (M 0 j) (K 8 j)
/-- the ENTRIES of both -/
def EnR (M K : Nat → Nat → Int32) : Prop := ∀ j : Nat, j < 2640 → M 13 j = K 7 j
theorem TK.cgK {I J : Nat → Int32} {L : Int64} {M K K' : Nat → Nat → Int32} (h : TK I J L M K) (hK : K' 8 = K 8) : TK I J L M K' := by
  unfold TK TQ at h ⊢
  rw [hK]
  exact h
/-- the beginning of both -/
theorem beg {N N2 : Nat} {I J : Nat → Int32} {L : Int64} {M K : Nat → Nat → Int32} {n : Int32} {R : (Nat → Int32) × (Nat → Nat → Int32)} {s7 : (Nat → Int32) × Int64 × (Nat → Nat → Int32)} (tr : TR I J M K) (n0 : 0 ≤ n.toInt) (n1 : n.toInt ≤ (J 3).toInt) (h : fX9_begin N I M n = some R) (g : fX12_steps N2 (upd (upd (upd (upd (upd J 3 0) 5 (-1)) 4 0) 6 n) 7 0) L K = some s7) : TK R.1 s7.1 s7.2.1 M K ∧ s7.1 4 = 0 ∧ R.2 = M ∧ s7.2.2 = K ∧ PsT R.1 ∧ R.1 7 = 0 ∧ R.1 0 = 0 ∧ s7.1 0 = J 0 ∧ s7.1 3 = 0 := by
  obtain ⟨a1, a2, a3, a4⟩ := tr
  obtain ⟨r6, e6, eR⟩ := bg9 (by rw [a1]; exact n1) h
  subst eR
  have q : TQ (upd (upd (upd (upd (upd I 1 n) 0 0) 3 0) 7 0) 8 (-1)) (upd (upd (upd (upd (upd J 3 0) 5 (-1)) 4 0) 6 n) 7 0) M K := by
    refine ⟨rfl, rfl, ?_, ?_, ?_, ?_⟩
    · show 0 ≤ (0 : Int32).toInt
      decide
    · show (0 : Int32).toInt ≤ n.toInt
      rw [show (0 : Int32).toInt = 0 from by decide]; exact n0
    · show n.toInt ≤ 600
      rw [a1] at a3; omega
    · show ∀ j : Nat, (j : Int) < n.toInt → BR (M 0 j) (K 8 j)
      intro j hj
      exact a4 j (by rw [a1]; omega)
  obtain ⟨t1, t2, t3, t4, t5, t6, t7⟩ := st_all e6 g q rfl
  exact ⟨t1, t2, t3, t4, t6, t7, (fr_fX9_step e6).1 0 (by decide), (fr_fX12_steps g).1 0 (by decide), (fr_fX12_steps g).1 3 (by decide)⟩
theorem whl {N N2 : Nat} {I J : Nat → Int32} {L : Int64} {M K : Nat → Nat → Int32} {b w n : Int32} {r : Nat ⊕ (Int32 × (Nat → Int32) × (Nat → Nat → Int32))} {S : Int32 × (Nat → Int32) × Int64 × (Nat → Nat → Int32)} (hN : 22 < N) (tr : TR I J M K) (er : EnR M K) (h : fX11_wheel N I M b w n = some r) (g : fX12_wheel N2 J L K b w n = some S) :
    (r = .inl 1 ∧ S.2.1 0 = 1 ∧ S.2.1 3 = J 3 ∧ S.2.2.2 = K) ∨ (r = .inl 2 ∧ S.2.1 0 = 2 ∧ S.2.1 3 = J 3 ∧ S.2.2.2 = K) ∨ (∃ R, r = .inr R ∧ S.2.1 0 = 0 ∧ R.1 = S.1 ∧ R.2.1 0 = 0 ∧ S.2.1 3 = 0 ∧ EnR R.2.2 S.2.2.2) := by
  unfold fX11_wheel at h
  unfold fX12_wheel at g
  obtain ⟨s4, f4, g⟩ := wb_b g
  rcases xbi h with ⟨k, e1, hr⟩ | ⟨r1, e1, h⟩
  · rcases nb11 e1 with ⟨-, q⟩ | ⟨hb, q⟩
    · cases q
    · left
      have q := Sum.inl.inj q
      subst q
      rcases iw12 f4 with ⟨hb2, -⟩ | ⟨-, q⟩
      · exact absurd hb2 hb
      · subst q
        have g := Option.some.inj (wb_t (c := (0 : Int32) = 0) rfl g)
        subst g
        exact ⟨hr, rfl, rfl, rfl⟩
  · rcases nb11 e1 with ⟨hb, q⟩ | ⟨-, q⟩
    · right
      have q := Sum.inr.inj q
      subst q
      rcases iw12 f4 with ⟨-, q⟩ | ⟨hb2, -⟩
      · subst q
        have g := wb_f (c := (1 : Int32) = 0) (by decide) g
        obtain ⟨J5, eJ5, g⟩ := wb_v g
        obtain ⟨s6, f6, g⟩ := wb_b g
        rw [wn11] at h
        obtain ⟨r2, e2, h⟩ := wb_v h
        have j50 : J5 0 = 0 := by rw [eJ5]; rfl
        have j53 : J5 3 = J 3 := by rw [eJ5]; rfl
        have j512 : J5 12 = 1 := by rw [eJ5]; rfl
        have ei := tr.1
        have c := wI_c n 0 (I 0)
        rw [show (0 : Int32).toInt = 0 from by decide, ← e2] at c
        rcases bg12 j50 f6 with ⟨⟨n0, n1⟩, s7, f7, es6⟩ | ⟨hn, es6⟩
        · right
          rcases c with ⟨c, -⟩ | ⟨-, c⟩
          · rw [c, alow1] at h
            subst es6
            have g := wb_f (c := (1 : Int32) = 0) (by decide) g
            obtain ⟨R, hR, h⟩ := oki h
            refine ⟨R, hR, ?_⟩
            obtain ⟨r4, e4, h⟩ := wb_b h
            have tr5 : TR I J5 M K := by
              obtain ⟨a1, a2, a3, a4⟩ := tr
              exact ⟨by rw [j53]; exact a1, a2, a3, a4⟩
            obtain ⟨t1, t2, t3, t4, t5, t6, t7, t8, t9⟩ := beg tr5 n0 n1 e4 f7
            rw [j50] at t8
            obtain ⟨I5, eI5, h⟩ := wb_v h
            obtain ⟨M6, eM6, h⟩ := wb_v h
            have m6 : M6 = M := by
              rw [eM6, t3]
              funext k
              by_cases hk : k < 1
              · exact wbi_lt hk
              · exact wbi_ge (Or.inr (by omega))
            rw [m6] at h
            obtain ⟨r7, e7, h⟩ := wb_b h
            have i5 : ∀ k, k < 9 → I5 k = r4.1 k := fun k hk => by rw [eI5]; exact wbi_lt hk
            have e7b := e7
            unfold fX1_readEntries at e7
            rw [wp_fill N 22 _ _ (by decide) hN] at e7
            obtain ⟨fl, efl, e7⟩ := wb_v e7
            obtain ⟨Mf, eMf, e7⟩ := wb_v e7
            obtain ⟨K', gg, g2, k16, kk⟩ := w29 N2 0 s7.1 s7.2.1 s7.2.2 S g (Nat.zero_le _) (fun e he => absurd he (Nat.not_lt_zero e))
            rw [t4] at kk
            have d0 : DR Mf K' := by
              intro e he
              rw [k16 e he, eMf]
              show (if (1 : Nat) = 1 then fl else _) e = -1
              rw [if_pos rfl, efl]
              show (if e < 22 then (-1 : Int32) else _) = -1
              rw [if_pos he]
            obtain ⟨J', L', K2, g3, m1, m2, m3, y0, y3, m4⟩ := rdL N N2 0 (wb_sh I5 13) Mf I5 M s7.1 s7.2.1 K' r7 S e7 g2 ((t1.cg i5 rfl).cgK (kk 8 (by decide))) t2 d0 (by
              unfold PsT at t5 ⊢
              rw [i5 4 (by decide), i5 2 (by decide), i5 3 (by decide)]
              exact t5) (by
              have := (t1.cg i5 (M' := M) rfl).2.2.2.1
              omega) (by omega)
            have y0 : J' 0 = 0 := y0.trans t8
            have y3 : J' 3 = 0 := y3.trans t9
            have mf0 : r7.2.2.1 0 = M 13 := by
              rw [m2, eMf]; rfl
            have tx := fr_fX1_readEntries e7b
            have x0 : r7.2.2.2.1 0 = 0 := (tx.1 0 (by decide)).trans ((i5 0 (by decide)).trans t7)
            obtain ⟨I8, eI8, h⟩ := wb_v h
            obtain ⟨M9, eM9, h⟩ := wb_v h
            have i8 : ∀ k, k < 9 → I8 k = r7.2.2.2.1 k := fun k hk => by rw [eI8]; exact wbi_lt hk
            have m913 : M9 13 = M 13 := by
              rw [eM9, wbi_ge (Or.inr (by decide)), wbi_in (by decide) (by decide)]
              exact mf0
            have m914 : M9 14 = r7.2.2.1 1 := by
              rw [eM9, wbi_ge (Or.inr (by decide)), wbi_in (by decide) (by decide)]
            unfold fX12_wheel_J71 at g3
            obtain ⟨p1, q1, g3⟩ := wb_b g3
            have k7 : K2 7 = K 7 := m3.trans (kk 7 (by decide))
            rcases m4 with ⟨c1, c2, c3, c4⟩ | ⟨c1, c2⟩
            · rw [good1 c2] at q1
              have q1 := Option.some.inj q1
              have g3 := wb_f (by rw [← q1]; decide) g3
              have h := wb_f (by rw [c1]; decide) h
              obtain ⟨r10, e10, h⟩ := wb_b h
              obtain ⟨I11, eI11, h⟩ := wb_v h
              obtain ⟨M12, eM12, h⟩ := wb_v h
              have h := Option.some.inj h
              subst h
              obtain ⟨⟨hb1, hb2⟩, hb3, hb4⟩ := hb
              have n20 : (20 : Int32).toInt = 20 := by decide
              have n22 : (22 : Int32).toInt = 22 := by decide
              have v1 := ia_mul 20 20 n20 b (by omega) (by omega)
              have v2 := ia_add ((20 : Int32) * b) w (by omega) (by omega)
              have v3 := ia_mul 22 22 n22 ((20 : Int32) * b + w) (by omega) (by omega)
              have v4 : ((22 : Int32) * ((20 : Int32) * b + w)).toInt = ((22 * (20 * b.toInt + w.toInt)).toNat : Int) := by omega
              obtain ⟨w1, w2, w3⟩ := w86 v4 (by omega) N2 0 J' L' K2 S g3 (by omega)
              have i11 : ∀ k, k < 9 → I11 k = r7.2.2.2.1 k := fun k hk => by
                rw [eI11, wbi_ge (Or.inl (by omega))]; exact i8 k hk
              unfold fX1_keepDraft at e10
              obtain ⟨-, e10⟩ := wb_n e10
              obtain ⟨Mk, eMk, e10⟩ := wb_v e10
              have e10 := Option.some.inj e10
              subst e10
              refine ⟨?_, ?_, ?_, ?_, ?_⟩
              · rw [w2]; exact y0
              · show I11 7 = S.1
                rw [i11 7 (by decide), c4, i5 7 (by decide), t6, w1]
              · show I11 0 = 0
                rw [i11 0 (by decide), x0]
              · rw [w2]; exact y3
              · intro j hj
                show M12 13 j = _
                rw [w3 j, eM12, wbi_in (by decide) (by decide)]
                show Mk 0 j = _
                rw [eMk]
                show (if (0 : Nat) = 0 then va_cpy (wb_sh M9 13 1) (wb_sh M9 13 0) _ _ _ else _) j = _
                rw [if_pos rfl]
                show va_cpy (M9 14) (M9 13) _ _ _ j = _
                unfold va_cpy
                rw [show ((0 : Int32)).toNatClampNeg = 0 from by decide, show ((22 : Int32)).toNatClampNeg = 22 from by decide, show (((22 : Int32) * ((20 : Int32) * b + w))).toNatClampNeg = (22 * (20 * b.toInt + w.toInt)).toNat from by rw [cl32]; omega]
                by_cases hj2 : (22 * (20 * b.toInt + w.toInt)).toNat ≤ j ∧ j < (22 * (20 * b.toInt + w.toInt)).toNat + 22
                · rw [if_pos hj2, if_pos (by omega), Nat.zero_add, m914]
                  exact c3 _ (by omega)
                · rw [if_neg hj2, if_neg (by omega), m913, k7]
                  exact er j hj
            · rw [good2 c2.2] at q1
              have q1 := Option.some.inj q1
              have g3 := Option.some.inj (wb_t q1.symm g3)
              subst g3
              have h := Option.some.inj (wb_t c1 h)
              subst h
              refine ⟨y0, ?_, ?_, y3, ?_⟩
              · show I8 7 = J' 4
                rw [i8 7 (by decide)]; exact c2.1.symm
              · show I8 0 = 0
                rw [i8 0 (by decide)]; exact x0
              · intro j hj
                show M9 13 j = K2 7 j
                rw [m913, k7]; exact er j hj
          · exfalso
            apply c
            rw [ei, ← j53]
            exact ⟨n0, n1⟩
        · left
          rcases c with ⟨-, c⟩ | ⟨c, -⟩
          · exfalso
            apply hn
            rw [j53, ← ei]
            exact c
          · rw [c, alow0] at h
            subst es6
            have g := Option.some.inj (wb_t (c := (0 : Int32) = 0) rfl g)
            subst g
            refine ⟨(Option.some.inj h).symm, ?_, ?_, rfl⟩
            · show (if J5 12 = 0 then (1 : Int32) else 2) = 2
              rw [j512]; rfl
            · exact j53
      · exact absurd hb hb2
    · cases q

/-- bounds that cut a COST alike -/
def BN (a b : Int32) : Prop := a = b ∨ (93 ≤ a.toInt ∧ 93 ≤ b.toInt)
theorem BN.lt {a b c : Int32} (h : BN a b) (hc : c.toInt ≤ 93) : a < c ↔ b < c := by
  rcases h with h | ⟨h1, h2⟩
  · rw [h]
  · constructor
    · intro z
      have := (lt32 rfl rfl).mp z
      omega
    · intro z
      have := (lt32 rfl rfl).mp z
      omega
theorem dv60 {x : Int32} (h : 0 ≤ x.toInt) (h2 : x.toInt < 21600) : 0 ≤ (x / 60).toInt ∧ (x / 60).toInt ≤ 359 := by
  have n60 : (60 : Int32).toInt = 60 := by decide
  have a := ia_div x 60 60 n60 (by omega) h
  omega
theorem cl_eq {N N2 : Nat} {I I2 J : Nat → Int32} {L : Int64} {M K : Nat → Nat → Int32} {n s d e1 e2 : Int32} (ht : HT I M J K) (er : EnR M K) (rg : ∀ j : Nat, -1 ≤ (M 13 j).toInt ∧ (M 13 j).toInt ≤ 389) (hs : 0 ≤ s.toInt ∧ s.toInt ≤ 3) (hd : 0 ≤ d.toInt ∧ d.toInt ≤ 1000001) (hb : BN e1 e2) : ∀ (fu fv y : Nat) (c a b : Int32), fX3_costOn_L37 N (wb_sh I 9) (wb_sh M 1) I2 (wb_sh M 13) n s d e1 fu c (nI y) = some a → fX12_costOn_L37 N2 J L K n s d e2 fv c (nI y) = some b → y ≤ 7 → 0 ≤ c.toInt → c.toInt ≤ 30 + 9 * (y : Int) → a = b ∧ 0 ≤ a.toInt ∧ a.toInt ≤ 93 := by
  intro fu
  induction fu with
  | zero => intro fv y c a b h; cases (show none = some a from h)
  | succ fu ih =>
    intro fv y c a b h g hy h0 h1
    cases fv with
    | zero => cases (show none = some b from g)
    | succ fv =>
      rw [fX3_costOn_L37.eq_2] at h
      rw [fX12_costOn_L37.eq_2] at g
      have ty : (nI y).toInt = (y : Int) := nI_toInt (by omega)
      rcases ifr h with ⟨c1, h⟩ | ⟨c1, h⟩
      · have g := Option.some.inj (wb_t c1 g)
        have h := Option.some.inj h
        subst h
        exact ⟨g, h0, by omega⟩
      · have g := wb_f c1 g
        have c1 : ¬ _ := fun z => c1 ((le32 (by decide : (7 : Int32).toInt = 7) ty).mpr z)
        rcases ifr h with ⟨c2, h⟩ | ⟨c2, h⟩
        · have g := Option.some.inj (wb_t ((hb.lt (by omega)).mp c2) g)
          have h := Option.some.inj h
          subst h
          exact ⟨g, h0, by omega⟩
        · have g := wb_f (fun z => c2 ((hb.lt (by omega)).mpr z)) g
          obtain ⟨r1, f1, h⟩ := wb_b h
          obtain ⟨s1, g1, g⟩ := wb_b g
          have e := at_eq er f1 g1
          subst e
          have r1r : -1 ≤ r1.toInt ∧ r1.toInt ≤ 389 := by
            unfold fX1_degreeOf at f1
            obtain ⟨-, f1⟩ := wb_n f1
            rw [← Option.some.inj f1]
            exact rg _
          rcases ifr h with ⟨c3, h⟩ | ⟨c3, h⟩
          · have g := wb_t c3 g
            obtain ⟨v2, ev, h⟩ := wb_v h
            obtain ⟨u2, eu, g⟩ := wb_v g
            rw [ev, nI_1] at h
            rw [eu, nI_1] at g
            exact ih fv (y + 1) c a b h g (by omega) h0 (by omega)
          · have g := wb_f c3 g
            have r1n : 0 ≤ r1.toInt := by
              refine Int.not_lt.mp (fun z => c3 ?_)
              apply t32
              rw [show (-1 : Int32).toInt = -1 from by decide]
              omega
            obtain ⟨r3, f3, h⟩ := wb_b h
            obtain ⟨r4, f4, h⟩ := wb_b h
            obtain ⟨v5, ev5, h⟩ := wb_v h
            obtain ⟨v6, ev6, h⟩ := wb_v h
            obtain ⟨s3, g3, g⟩ := wb_b g
            obtain ⟨s4, g4, g⟩ := wb_b g
            obtain ⟨s5, g5, g⟩ := wb_b g
            obtain ⟨u6, eu6, g⟩ := wb_v g
            obtain ⟨u7, eu7, g⟩ := wb_v g
            have e3 : s3 = r1 := Option.some.inj (g3.symm.trans g1)
            rw [e3] at g5
            unfold fX5_degreeOn at f3
            obtain ⟨p, fp, f3⟩ := wb_b f3
            have f3 := Option.some.inj f3
            obtain ⟨ep, p0, p1⟩ := pl_eq ht hs (by rw [ty]; omega) hd fp g4
            rw [← ep] at g5
            have dp := dv60 p0 p1
            rw [← f3] at f4
            obtain ⟨e4, q0, q1⟩ := cst_eq ht rfl ⟨r1n, r1r.2⟩ ⟨dp.1, by omega⟩ f4 g5
            rw [ev6, nI_1, ev5] at h
            rw [eu7, nI_1, eu6, ← e4] at g
            have ea := ia_add c r4 (by omega) (by omega)
            exact ih fv (y + 1) (c + r4) a b h g (by omega) (by omega) (by omega)
/-- COSTS of a WHEEL on a DAY alike -/
theorem co_eq {N N2 : Nat} {I I2 J : Nat → Int32} {L : Int64} {M K : Nat → Nat → Int32} {n s d e1 e2 a b : Int32} (ht : HT I M J K) (er : EnR M K) (rg : ∀ j : Nat, -1 ≤ (M 13 j).toInt ∧ (M 13 j).toInt ≤ 389) (hs : 0 ≤ s.toInt ∧ s.toInt ≤ 3) (hd : 0 ≤ d.toInt ∧ d.toInt ≤ 1000001) (hb : BN e1 e2) (h : fX3_costOn N (wb_sh I 9) (wb_sh M 1) I2 (wb_sh M 13) n s d e1 = some a) (g : fX12_costOn N2 J L K n s d e2 = some b) : a = b ∧ 0 ≤ a.toInt ∧ a.toInt ≤ 93 := by
  unfold fX3_costOn fX3_costOn_J31 fX3_costOn_J32 at h
  unfold fX12_costOn fX12_costOn_J31 fX12_costOn_J32 at g
  obtain ⟨r7, f7, h⟩ := wb_b h
  obtain ⟨s8, g8, g⟩ := wb_b g
  have e := at_eq er f7 g8
  subst e
  rcases ifr h with ⟨c, h⟩ | ⟨c, h⟩
  · have g := wb_t c g
    exact cl_eq ht er rg hs hd hb N N2 0 0 a b h g (by omega) (by decide) (by decide)
  · have g := wb_f c g
    obtain ⟨s9, g9, g⟩ := wb_b g
    have e9 : s9 = r7 := Option.some.inj (g9.symm.trans g8)
    rw [e9] at g
    rcases ifr h with ⟨c2, h⟩ | ⟨c2, h⟩
    · have g := wb_t c2 g
      exact cl_eq ht er rg hs hd hb N N2 0 0 a b h g (by omega) (by decide) (by decide)
    · have g := wb_f c2 g
      exact cl_eq ht er rg hs hd hb N N2 0 30 a b h g (by omega) (by decide) (by decide)

/-! MIXED DAYS of both -/
/-- by which SETS a WANDERER is at its DEGREE -/
theorem dgo {N N2 : Nat} {I J : Nat → Int32} {L : Int64} {M K : Nat → Nat → Int32} {s k d a b : Int32} {I' : Nat → Int32} (ht : HT I M J K) (hs : 0 ≤ s.toInt ∧ s.toInt ≤ 3) (hk : 0 ≤ k.toInt ∧ k.toInt ≤ 6) (hd : 0 ≤ d.toInt ∧ d.toInt ≤ 1000001) (h : fX5_degreeOn N I' (wb_sh M 1) s k d = some a) (g : fX12_placeOn N2 J L K s k d = some b) : a = b / 60 ∧ 0 ≤ a.toInt ∧ a.toInt ≤ 359 := by
  unfold fX5_degreeOn at h
  obtain ⟨p, e, h⟩ := wb_b h
  obtain ⟨q, p0, p1⟩ := pl_eq ht hs hk hd e g
  have z := dv60 p0 p1
  rw [← Option.some.inj h, q]
  rw [q] at z
  exact ⟨rfl, z⟩
theorem mx41 {N N2 : Nat} {I J : Nat → Int32} {L : Int64} {M K : Nat → Nat → Int32} {x d r y9 : Int32} {I' : Nat → Int32} {z3 : Int32} {gg : Int32 → Int32 → Int32 → Option Int32} (ht : HT I M J K) (hk : 0 ≤ y9.toInt ∧ y9.toInt ≤ 6) (hd : 0 ≤ d.toInt ∧ d.toInt ≤ 1000001) (ga : fX12_at N2 J L K x y9 = some r) : ∀ (fu fv y : Nat) (v a b : Int32), fX3_setsAt_L6 N I' (wb_sh M 1) r y9 d fu v (nI y) = some a → fX12_isMixed_L41 N2 J L K x d z3 y9 gg fv v (nI y) = some b → y ≤ 4 → (if a = 0 then gg (z3 &&& a) 0 (y9 + 1) else gg (z3 &&& a) 1 (y9 + 1)) = some b := by
  have n4 : (4 : Int32).toInt = 4 := by decide
  intro fu
  induction fu with
  | zero => intro fv y v a b h; cases (show none = some a from h)
  | succ fu ih =>
    intro fv y v a b h g hy
    cases fv with
    | zero => cases (show none = some b from g)
    | succ fv =>
      rw [fX3_setsAt_L6.eq_2] at h
      rw [fX12_isMixed_L41.eq_2] at g
      have ty : (nI y).toInt = (y : Int) := nI_toInt (by omega)
      rcases ifr h with ⟨c, h⟩ | ⟨c, h⟩
      · have g := wb_t c g
        rw [← Option.some.inj h]
        obtain ⟨v2, e2, g⟩ := wb_v g
        rw [e2] at g
        rcases ifr g with ⟨c2, g⟩ | ⟨c2, g⟩
        · obtain ⟨v3, e3, g⟩ := wb_v g
          rw [e3] at g
          rw [if_pos c2]
          exact g
        · obtain ⟨v3, e3, g⟩ := wb_v g
          rw [e3] at g
          rw [if_neg c2]
          exact g
      · have g := wb_f c g
        have c : ¬ _ := fun z => c ((le32 n4 ty).mpr z)
        obtain ⟨r1, e1, h⟩ := wb_b h
        obtain ⟨s1, d1, g⟩ := wb_b g
        obtain ⟨s2, d2, g⟩ := wb_b g
        have q2 : s2 = r := Option.some.inj (d2.symm.trans ga)
        rw [q2] at g
        have q := (dgo ht ⟨by omega, by omega⟩ hk hd e1 d1).1
        rw [← q] at g
        rcases ifr h with ⟨c1, h⟩ | ⟨c1, h⟩
        · have g := wb_t c1 g
          obtain ⟨u1, f1, h⟩ := wb_v h
          obtain ⟨u2, f2, h⟩ := wb_v h
          obtain ⟨u3, f3, g⟩ := wb_v g
          obtain ⟨u4, f4, g⟩ := wb_v g
          rw [f1, f2, nI_1] at h
          rw [f3, f4, nI_1] at g
          exact ih fv (y + 1) _ a b h g (by omega)
        · have g := wb_f c1 g
          obtain ⟨u1, f1, h⟩ := wb_v h
          obtain ⟨u3, f3, g⟩ := wb_v g
          rw [f1, nI_1] at h
          rw [f3, nI_1] at g
          exact ih fv (y + 1) v a b h g (by omega)
theorem mx_l {N N2 : Nat} {I J : Nat → Int32} {L : Int64} {M K : Nat → Nat → Int32} {x d : Int32} {I' I2 : Nat → Int32} (ht : HT I M J K) (er : EnR M K) (hd : 0 ≤ d.toInt ∧ d.toInt ≤ 1000001) : ∀ (fu fv y : Nat) (v a b : Int32), fX3_isMixed_L7 N I' (wb_sh M 1) I2 (wb_sh M 13) x d fu v (nI y) = some a → fX12_isMixed_L9 N2 J L K x d fv v 1 (nI y) = some b → y ≤ 7 → a = b := by
  have n7 : (7 : Int32).toInt = 7 := by decide
  have no : ∀ (fv : Nat) (v y b : Int32), fX12_isMixed_L9 N2 J L K x d fv v 0 y = some b → b = 0 := by
    intro fv v y b g
    cases fv with
    | zero => cases (show none = some b from g)
    | succ fv =>
      rw [fX12_isMixed_L9.eq_2] at g
      have fin : fX12_isMixed_J107 N2 J L K x d v 0 = some b → b = 0 := by
        intro g
        unfold fX12_isMixed_J107 at g
        exact (Option.some.inj (wb_t (c := (0 : Int32) = 0) rfl g)).symm
      rcases ifr g with ⟨c, g⟩ | ⟨c, g⟩
      · exact fin g
      · exact fin (wb_t (c := (0 : Int32) = 0) rfl g)
  intro fu
  induction fu with
  | zero => intro fv y v a b h; cases (show none = some a from h)
  | succ fu ih =>
    intro fv y v a b h g hy
    cases fv with
    | zero => cases (show none = some b from g)
    | succ fv =>
      rw [fX3_isMixed_L7.eq_2] at h
      rw [fX12_isMixed_L9.eq_2] at g
      have ty : (nI y).toInt = (y : Int) := nI_toInt (by omega)
      rcases ifr h with ⟨c, h⟩ | ⟨c, h⟩
      · have g := wb_t c g
        unfold fX12_isMixed_J107 at g
        have g := wb_f (c := (1 : Int32) = 0) (by decide) g
        rcases ifr h with ⟨c2, h⟩ | ⟨c2, h⟩
        · rw [← Option.some.inj h, ← Option.some.inj (wb_t c2 g)]
        · rw [← Option.some.inj h, ← Option.some.inj (wb_f c2 g)]
      · have g := wb_f (c := (1 : Int32) = 0) (by decide) (wb_f c g)
        have c : ¬ _ := fun z => c ((le32 n7 ty).mpr z)
        obtain ⟨r1, e1, h⟩ := wb_b h
        obtain ⟨s1, d1, g⟩ := wb_b g
        have q := at_eq er e1 d1
        rw [← q] at g
        rcases ifr h with ⟨c1, h⟩ | ⟨c1, h⟩
        · have g := wb_t c1 g
          obtain ⟨u1, f1, h⟩ := wb_v h
          obtain ⟨u3, f3, g⟩ := wb_v g
          rw [f1, nI_1] at h
          rw [f3, nI_1] at g
          exact ih fv (y + 1) v a b h g (by omega)
        · have g := wb_f c1 g
          obtain ⟨r3, e3, h⟩ := wb_b h
          rw [← q] at d1
          have g := mx41 ht ⟨by omega, by omega⟩ hd d1 N N2 0 0 r3 b e3 g (by omega)
          rcases ifr h with ⟨c2, h⟩ | ⟨c2, h⟩
          · rw [if_pos c2] at g
            rw [← Option.some.inj h]
            exact (no fv _ _ b g).symm
          · rw [if_neg c2] at g
            obtain ⟨u1, f1, h⟩ := wb_v h
            obtain ⟨u2, f2, h⟩ := wb_v h
            rw [f1, f2, nI_1] at h
            rw [nI_1] at g
            exact ih fv (y + 1) _ a b h g (by omega)
theorem mi_l {N N2 : Nat} {I J : Nat → Int32} {L : Int64} {M K : Nat → Nat → Int32} {x1 x2 x3 x4 r1 : Int32} (ht : HT I M J K) (er : EnR M K) (er1 : r1 = (20 : Int32) * x1 + x2) (h4 : 0 ≤ x3.toInt) (h5 : 0 ≤ x4.toInt) (h45 : x3.toInt + x4.toInt ≤ 1000000) : ∀ (fu fv y : Nat) (v d a : Int32) S, fX11_mixed_L29 N I M x1 x2 x3 x4 r1 fu v (nI y) = some a → fX12_mixed_L27 N2 x1 x2 x3 x4 fv J L K v d = some S → (y : Int) ≤ x4.toInt + 1 → d.toInt = x3.toInt + (y : Int) → a = S.1 ∧ S.2.1 = J ∧ S.2.2.2 = K := by
  have t45 := ia_add x3 x4 (by omega) (by omega)
  intro fu
  induction fu with
  | zero => intro fv y v d a S h; cases (show none = some a from h)
  | succ fu ih =>
    intro fv y v d a S h g hy hd
    cases fv with
    | zero => cases (show none = some S from g)
    | succ fv =>
      rw [fX11_mixed_L29.eq_2] at h
      rw [fX12_mixed_L27.eq_2] at g
      have ty : (nI y).toInt = (y : Int) := nI_toInt (by omega)
      rcases ifr h with ⟨c, h⟩ | ⟨c, h⟩
      · have c := (lt32 rfl ty).mp c
        have g := Option.some.inj (wb_t ((lt32 t45 hd).mpr (by omega)) g)
        rw [← g, ← Option.some.inj h]
        exact ⟨rfl, rfl, rfl⟩
      · have c : ¬ _ := fun z => c ((lt32 rfl ty).mpr z)
        have g := wb_f (fun z => by have := (lt32 t45 hd).mp z; omega) g
        obtain ⟨r6, e6, h⟩ := wb_b h
        obtain ⟨s6, d6, g⟩ := wb_b g
        have t3 := ia_add x3 (nI y) (by omega) (by omega)
        have ed : x3 + nI y = d := t32 (by omega)
        unfold fX3_isMixed at e6
        unfold fX12_isMixed at d6
        rw [ed, er1] at e6
        have q := mx_l ht er ⟨by omega, by omega⟩ N N2 0 15 r6 s6 e6 d6 (by omega)
        rw [← q] at g
        have td := p1i (x := d) (by omega)
        rcases ifr h with ⟨c1, h⟩ | ⟨c1, h⟩
        · have g := wb_t c1 g
          obtain ⟨u1, f1, h⟩ := wb_v h
          obtain ⟨u3, f3, g⟩ := wb_v g
          rw [f1, nI_1] at h
          rw [f3] at g
          exact ih fv (y + 1) v (d + 1) a S h g (by omega) (by omega)
        · have g := wb_f c1 g
          obtain ⟨u1, f1, h⟩ := wb_v h
          obtain ⟨u2, f2, h⟩ := wb_v h
          obtain ⟨u3, f3, g⟩ := wb_v g
          obtain ⟨u4, f4, g⟩ := wb_v g
          rw [f1, f2, nI_1] at h
          rw [f3, f4] at g
          exact ih fv (y + 1) (v + 1) (d + 1) a S h g (by omega) (by omega)

theorem han_l {N N2 : Nat} {I : Nat → Int32} {M K : Nat → Nat → Int32} {x1 x2 x3 : Int32} (er : EnR M K) : ∀ (fu fv : Nat) {J : Nat → Int32} {L : Int64} (y v : Int32) {a : Int32} {S : Int32 × (Nat → Int32) × Int64 × (Nat → Nat → Int32)}, fX1_howManyHanded_L6 N I (wb_sh M 13) x1 x2 x3 fu v y = some a → fX12_handed_L37 N2 x1 x2 x3 fv J L K v y = some S → a = S.1 ∧ S.2.1 = J := by
  intro fu
  induction fu with
  | zero => intro fv J L y v a S h; cases (show none = some a from h)
  | succ fu ih =>
    intro fv J L y v a S h g
    cases fv with
    | zero => cases (show none = some S from g)
    | succ fv =>
      rw [fX1_howManyHanded_L6.eq_2] at h
      rw [fX12_handed_L37.eq_2] at g
      rcases ifr h with ⟨c, h⟩ | ⟨c, h⟩
      · have h := Option.some.inj h
        have g := Option.some.inj (wb_t c g)
        subst g
        exact ⟨h.symm, rfl⟩
      · have g := wb_f c g
        have rd : ∀ x : Int32, ¬ ((440 : Int32) * x + y < 0 ∨ 2640 ≤ ((440 : Int32) * x + y).toNatClampNeg) → wb_sh M 13 0 ((440 : Int32) * x + y).toNatClampNeg = K 7 ((440 : Int32) * x + y).toNatClampNeg := fun x hx => er _ (Nat.lt_of_not_le (fun z => hx (Or.inr z)))
        obtain ⟨n1, h⟩ := wb_n h
        obtain ⟨v1, e1, h⟩ := wb_v h
        obtain ⟨n2, h⟩ := wb_n h
        obtain ⟨v2, e2, h⟩ := wb_v h
        obtain ⟨n3, h⟩ := wb_n h
        obtain ⟨v3, e3, h⟩ := wb_v h
        obtain ⟨-, g⟩ := wb_n g
        obtain ⟨u1, d1, g⟩ := wb_v g
        obtain ⟨-, g⟩ := wb_n g
        obtain ⟨u2, d2, g⟩ := wb_v g
        obtain ⟨-, g⟩ := wb_n g
        obtain ⟨u3, d3, g⟩ := wb_v g
        have q1 : u1 = v1 := by rw [d1, e1, rd x1 n1]
        have q2 : u2 = v2 := by rw [d2, e2, rd x2 n2]
        have q3 : u3 = v3 := by rw [d3, e3, rd x3 n3]
        rw [q1, q2, q3] at g
        have nx : ∀ (w w2 : Int32), w = y + 1 → w2 = y + 1 → ∀ v', fX1_howManyHanded_L6 N I (wb_sh M 13) x1 x2 x3 fu v' w = some a → fX12_handed_L37 N2 x1 x2 x3 fv J L K v' w2 = some S → a = S.1 ∧ S.2.1 = J := by
          intro w w2 ew ew2 v' h g
          rw [ew] at h
          rw [ew2] at g
          exact ih fv (y + 1) v' h g
        rcases ifr h with ⟨c1, h⟩ | ⟨c1, h⟩
        · have g := wb_t c1 g
          obtain ⟨w, ew, h⟩ := wb_v h
          obtain ⟨w2, ew2, g⟩ := wb_v g
          exact nx w w2 ew ew2 v h g
        · have g := wb_f c1 g
          rcases ifr h with ⟨c2, h⟩ | ⟨c2, h⟩
          · have g := wb_t c2 g
            rcases ifr h with ⟨c3, h⟩ | ⟨c3, h⟩
            · have g := wb_t c3 g
              obtain ⟨w, ew, h⟩ := wb_v h
              obtain ⟨w2, ew2, g⟩ := wb_v g
              exact nx w w2 ew ew2 v h g
            · have g := wb_f c3 g
              rcases ifr h with ⟨c4, h⟩ | ⟨c4, h⟩
              · have g := wb_t c4 g
                obtain ⟨w, ew, h⟩ := wb_v h
                obtain ⟨w2, ew2, g⟩ := wb_v g
                exact nx w w2 ew ew2 v h g
              · have g := wb_f c4 g
                obtain ⟨t, et, h⟩ := wb_v h
                obtain ⟨w, ew, h⟩ := wb_v h
                obtain ⟨t2, et2, g⟩ := wb_v g
                obtain ⟨w2, ew2, g⟩ := wb_v g
                rw [et] at h
                rw [et2] at g
                exact nx w w2 ew ew2 (v + 1) h g
          · have g := wb_f c2 g
            obtain ⟨w, ew, h⟩ := wb_v h
            obtain ⟨w2, ew2, g⟩ := wb_v g
            exact nx w w2 ew ew2 v h g

theorem an_mixed {N : Nat} (hN : 3000000000 ≤ N) {I0 I1 : Nat → Int32} {M0 M1 : Nat → Nat → Int32} {L1 : Int64} {x1 x2 x3 x4 : Int32} {o : Nat → Int64} {r : Int32 × (Nat → Int32) × (Nat → Nat → Int32) × (Nat → Int64)} {s : Int32 × (Nat → Int32) × Int64 × (Nat → Nat → Int32)} (k0 : KX11 I0 M0) (k1 : KX12 I1 M1) (e1 : fL_mixed N I0 M0 x1 x2 x3 x4 o = some r) (e3 : fX12_mixed N I1 L1 M1 x1 x2 x3 x4 = some s) (hr : RR I0 M0 I1 M1) : s.2.1 0 = r.1 ∧ (r.1 = 0 → r.2.2.2 0 = s.1.toInt64) := by
  unfold fL_mixed at e1
  have hr0 := hr.j0 0
  have u1 : (upd I1 0 0 1).toInt = (I1 1).toInt := rfl
  have ht := hr.2.2
  have er := hr.2.1
  have h91 := congrArg Int32.toInt ht.1
  have u2 : (((1 : Int32), upd I1 0 0, L1, M1).snd.fst 1).toInt = (I1 1).toInt := rfl
  have i9 := k0.i9
  have key : ∀ q, fX11_mixed N I0 M0 x1 x2 x3 x4 = some q → (q = .inl 1 ∧ s.2.1 0 = 1) ∨ (q = .inl 2 ∧ s.2.1 0 = 2) ∨ ∃ a, q = .inr a ∧ s.2.1 0 = 0 ∧ a = s.1 := by
    intro q h
    unfold fX11_mixed at h
    rcases xbi h with ⟨k2, h13, h⟩ | ⟨n4, h13, h⟩
    · rcases nb11 h13 with ⟨-, z6⟩ | ⟨cb5, z6⟩
      · cases z6
      · have z6 := Sum.inl.inj z6
        rw [z6] at h
        unfold BW at cb5
        have g := e3
        unfold fX12_mixed at g
        obtain ⟨r7, e8, g⟩ := wb_b g
        rcases iw12 e8 with ⟨c10, q9⟩ | ⟨c10, q9⟩
        · subst q9
          unfold BW at c10
          have g := wb_f (c := (1 : Int32) = 0) (by decide) g
          obtain ⟨r11, e12, g⟩ := wb_b g
          rcases ck12_isSpan rfl e12 with ⟨c14, q13⟩ | ⟨c14, q13⟩ | ⟨c14, q13⟩
          · subst q13
            have g := wb_f (c := (1 : Int32) = 0) (by decide) g
            exfalso
            omega
          · subst q13
            have g := wb_t (c := (0 : Int32) = 0) rfl g
            have g := Option.some.inj g
            subst g
            exact Or.inl ⟨h, rfl⟩
          · subst q13
            have g := wb_t (c := (0 : Int32) = 0) rfl g
            have g := Option.some.inj g
            subst g
            exfalso
            omega
        · subst q9
          unfold BW at c10
          have g := wb_t (c := (0 : Int32) = 0) rfl g
          have g := Option.some.inj g
          subst g
          exact Or.inl ⟨h, rfl⟩
    · rcases nb11 h13 with ⟨cb5, z6⟩ | ⟨-, z6⟩
      · have z6 := Sum.inr.inj z6
        rw [z6] at h
        unfold BW at cb5
        obtain ⟨r15, e16, h⟩ := wb_b h
        rcases ck_isDay e16 with ⟨q17, c18⟩ | ⟨q17, c18⟩
        · rcases nd11 h with ⟨c19, h⟩ | ⟨c19, h⟩
          · exact absurd c19 (by rw [q17]; decide)
          · obtain ⟨r20, e21, h⟩ := wb_b h
            rcases ck_isSpan (by omega) (by omega) e21 with ⟨q22, c23⟩ | ⟨q22, c23⟩
            · rcases al11 h with ⟨c24, h⟩ | ⟨c24, h⟩
              · exact absurd c24 (by rw [q22]; decide)
              · obtain ⟨a, ha, h⟩ := oki h
                have g := e3
                unfold fX12_mixed at g
                obtain ⟨r25, e26, g⟩ := wb_b g
                rcases iw12 e26 with ⟨c28, q27⟩ | ⟨c28, q27⟩
                · subst q27
                  unfold BW at c28
                  have g := wb_f (c := (1 : Int32) = 0) (by decide) g
                  obtain ⟨r29, e30, g⟩ := wb_b g
                  rcases ck12_isSpan rfl e30 with ⟨c32, q31⟩ | ⟨c32, q31⟩ | ⟨c32, q31⟩
                  · subst q31
                    have g := wb_f (c := (1 : Int32) = 0) (by decide) g
                    obtain ⟨w1, w2, w3⟩ := mi_l hr0.2.2 er rfl (by omega) (by omega) (by omega) N N 0 0 x3 a s h g (by omega) (by omega)
                    exact Or.inr (Or.inr ⟨_, ha, by rw [w2]; rfl, w1⟩)
                  · subst q31
                    have g := wb_t (c := (0 : Int32) = 0) rfl g
                    have g := Option.some.inj g
                    subst g
                    exfalso
                    omega
                  · subst q31
                    have g := wb_t (c := (0 : Int32) = 0) rfl g
                    have g := Option.some.inj g
                    subst g
                    exfalso
                    omega
                · subst q27
                  unfold BW at c28
                  have g := wb_t (c := (0 : Int32) = 0) rfl g
                  have g := Option.some.inj g
                  subst g
                  exfalso
                  omega
            · rcases al11 h with ⟨c33, h⟩ | ⟨c33, h⟩
              · have g := e3
                unfold fX12_mixed at g
                obtain ⟨r34, e35, g⟩ := wb_b g
                rcases iw12 e35 with ⟨c37, q36⟩ | ⟨c37, q36⟩
                · subst q36
                  unfold BW at c37
                  have g := wb_f (c := (1 : Int32) = 0) (by decide) g
                  obtain ⟨r38, e39, g⟩ := wb_b g
                  rcases ck12_isSpan rfl e39 with ⟨c41, q40⟩ | ⟨c41, q40⟩ | ⟨c41, q40⟩
                  · subst q40
                    have g := wb_f (c := (1 : Int32) = 0) (by decide) g
                    exfalso
                    omega
                  · subst q40
                    have g := wb_t (c := (0 : Int32) = 0) rfl g
                    have g := Option.some.inj g
                    subst g
                    exfalso
                    omega
                  · subst q40
                    have g := wb_t (c := (0 : Int32) = 0) rfl g
                    have g := Option.some.inj g
                    subst g
                    exact Or.inr (Or.inl ⟨h, rfl⟩)
                · subst q36
                  unfold BW at c37
                  have g := wb_t (c := (0 : Int32) = 0) rfl g
                  have g := Option.some.inj g
                  subst g
                  exfalso
                  omega
              · exact absurd q22 c33
        · rcases nd11 h with ⟨c42, h⟩ | ⟨c42, h⟩
          · have g := e3
            unfold fX12_mixed at g
            obtain ⟨r43, e44, g⟩ := wb_b g
            rcases iw12 e44 with ⟨c46, q45⟩ | ⟨c46, q45⟩
            · subst q45
              unfold BW at c46
              have g := wb_f (c := (1 : Int32) = 0) (by decide) g
              obtain ⟨r47, e48, g⟩ := wb_b g
              rcases ck12_isSpan rfl e48 with ⟨c50, q49⟩ | ⟨c50, q49⟩ | ⟨c50, q49⟩
              · subst q49
                have g := wb_f (c := (1 : Int32) = 0) (by decide) g
                exfalso
                omega
              · subst q49
                have g := wb_t (c := (0 : Int32) = 0) rfl g
                have g := Option.some.inj g
                subst g
                exact Or.inl ⟨h, rfl⟩
              · subst q49
                have g := wb_t (c := (0 : Int32) = 0) rfl g
                have g := Option.some.inj g
                subst g
                exfalso
                omega
            · subst q45
              unfold BW at c46
              have g := wb_t (c := (0 : Int32) = 0) rfl g
              have g := Option.some.inj g
              subst g
              exact Or.inl ⟨h, rfl⟩
          · exact absurd q17 c42
      · cases z6
  exact fin_2n e1 key

theorem an_whose {N : Nat} (hN : 3000000000 ≤ N) {I0 I1 : Nat → Int32} {M0 M1 : Nat → Nat → Int32} {L1 : Int64} {x1 x2 x3 x4 x5 : Int32} {o : Nat → Int64} {r : Int32 × (Nat → Int32) × (Nat → Nat → Int32) × (Nat → Int64)} {s : Int32 × (Nat → Int32) × Int64 × (Nat → Nat → Int32)} (k0 : KX11 I0 M0) (k1 : KX12 I1 M1) (e1 : fL_whose N I0 M0 x1 x2 x3 x4 x5 o = some r) (e3 : fX12_whose N I1 L1 M1 x1 x2 x3 x4 x5 = some s) (hr : RR I0 M0 I1 M1) : s.2.1 0 = r.1 ∧ (r.1 = 0 → r.2.2.2 0 = s.1.toInt64) := by
  unfold fL_whose at e1
  have hr0 := hr.j0 0
  have u1 : (upd I1 0 0 1).toInt = (I1 1).toInt := rfl
  have ht := hr.2.2
  have er := hr.2.1
  have h91 := congrArg Int32.toInt ht.1
  have u2 : (((1 : Int32), upd I1 0 0, L1, M1).snd.fst 1).toInt = (I1 1).toInt := rfl
  have i9 := k0.i9
  have key : ∀ q, fX11_whose N I0 M0 x1 x2 x3 x4 x5 = some q → (q = .inl 1 ∧ s.2.1 0 = 1) ∨ (q = .inl 2 ∧ s.2.1 0 = 2) ∨ ∃ a, q = .inr a ∧ s.2.1 0 = 0 ∧ a.1 = s.1 := by
    intro q h
    unfold fX11_whose at h
    rcases xbi h with ⟨k2, h13, h⟩ | ⟨n4, h13, h⟩
    · rcases nb11 h13 with ⟨-, z6⟩ | ⟨cb5, z6⟩
      · cases z6
      · have z6 := Sum.inl.inj z6
        rw [z6] at h
        unfold BW at cb5
        have g := e3
        unfold fX12_whose at g
        obtain ⟨r7, e8, g⟩ := wb_b g
        rcases iw12 e8 with ⟨c10, q9⟩ | ⟨c10, q9⟩
        · subst q9
          unfold BW at c10
          have g := wb_f (c := (1 : Int32) = 0) (by decide) g
          obtain ⟨r11, e12, g⟩ := wb_b g
          rcases ck_within12 (0) (2) (by decide) (by decide) e12 with ⟨q13, c14⟩ | ⟨q13, c14⟩
          · obtain ⟨r15, e16, g⟩ := wb_b g
            rcases rt12 rfl (by decide) e16 with ⟨c18, q17⟩ | ⟨c18, q17⟩
            · subst q17
              have g := wb_f (c := (1 : Int32) = 0) (by decide) g
              obtain ⟨r19, e20, g⟩ := wb_b g
              rcases ck12_isSpan rfl e20 with ⟨c22, q21⟩ | ⟨c22, q21⟩ | ⟨c22, q21⟩
              · subst q21
                have g := wb_f (c := (1 : Int32) = 0) (by decide) g
                exfalso
                omega
              · subst q21
                have g := wb_t (c := (0 : Int32) = 0) rfl g
                have g := Option.some.inj g
                subst g
                exact Or.inl ⟨h, rfl⟩
              · subst q21
                have g := wb_t (c := (0 : Int32) = 0) rfl g
                have g := Option.some.inj g
                subst g
                exfalso
                omega
            · exact absurd c18 (by rw [q13]; decide)
          · obtain ⟨r23, e24, g⟩ := wb_b g
            rcases rt12 rfl (by decide) e24 with ⟨c26, q25⟩ | ⟨c26, q25⟩
            · exact absurd q13 c26
            · subst q25
              have g := wb_t (c := (0 : Int32) = 0) rfl g
              have g := Option.some.inj g
              subst g
              exact Or.inl ⟨h, rfl⟩
        · subst q9
          unfold BW at c10
          have g := wb_t (c := (0 : Int32) = 0) rfl g
          have g := Option.some.inj g
          subst g
          exact Or.inl ⟨h, rfl⟩
    · rcases nb11 h13 with ⟨cb5, z6⟩ | ⟨-, z6⟩
      · have z6 := Sum.inr.inj z6
        rw [z6] at h
        unfold BW at cb5
        obtain ⟨r27, e28, h⟩ := wb_b h
        rcases ck_isDay e28 with ⟨q29, c30⟩ | ⟨q29, c30⟩
        · have h := wb_f (by rw [q29]; decide) h
          obtain ⟨r31, e32, h⟩ := wb_b h
          rcases ck_within (0) (2) (by decide) (by decide) e32 with ⟨q33, c34⟩ | ⟨q33, c34⟩
          · have h := wb_f (by rw [q33]; decide) h
            unfold fX11_whose_J29 at h
            rcases nd11 h with ⟨c35, h⟩ | ⟨c35, h⟩
            · exact absurd c35 (show ¬ (1 : Int32) = 0 by decide)
            · obtain ⟨r36, e37, h⟩ := wb_b h
              rcases ck_isSpan (by omega) (by omega) e37 with ⟨q38, c39⟩ | ⟨q38, c39⟩
              · rcases al11 h with ⟨c40, h⟩ | ⟨c40, h⟩
                · exact absurd c40 (by rw [q38]; decide)
                · obtain ⟨a, ha, h⟩ := oki h
                  have g := e3
                  unfold fX12_whose at g
                  obtain ⟨r41, e42, g⟩ := wb_b g
                  rcases iw12 e42 with ⟨c44, q43⟩ | ⟨c44, q43⟩
                  · subst q43
                    unfold BW at c44
                    have g := wb_f (c := (1 : Int32) = 0) (by decide) g
                    obtain ⟨r45, e46, g⟩ := wb_b g
                    rcases ck_within12 (0) (2) (by decide) (by decide) e46 with ⟨q47, c48⟩ | ⟨q47, c48⟩
                    · obtain ⟨r49, e50, g⟩ := wb_b g
                      rcases rt12 rfl (by decide) e50 with ⟨c52, q51⟩ | ⟨c52, q51⟩
                      · subst q51
                        have g := wb_f (c := (1 : Int32) = 0) (by decide) g
                        obtain ⟨r53, e54, g⟩ := wb_b g
                        rcases ck12_isSpan rfl e54 with ⟨c56, q55⟩ | ⟨c56, q55⟩ | ⟨c56, q55⟩
                        · subst q55
                          have g := wb_f (c := (1 : Int32) = 0) (by decide) g
                          obtain ⟨w1, w2⟩ := wo_l (by omega) (by omega) (by omega) N N 0 I0 M0 1000 0 0 999 (-1) 0 a s hr0.2.2 er k0.m13 (by omega) (Or.inl ⟨rfl, rfl, rfl⟩) h g
                          exact Or.inr (Or.inr ⟨_, ha, by rw [w2]; rfl, w1⟩)
                        · subst q55
                          have g := wb_t (c := (0 : Int32) = 0) rfl g
                          have g := Option.some.inj g
                          subst g
                          exfalso
                          omega
                        · subst q55
                          have g := wb_t (c := (0 : Int32) = 0) rfl g
                          have g := Option.some.inj g
                          subst g
                          exfalso
                          omega
                      · exact absurd c52 (by rw [q47]; decide)
                    · obtain ⟨r57, e58, g⟩ := wb_b g
                      rcases rt12 rfl (by decide) e58 with ⟨c60, q59⟩ | ⟨c60, q59⟩
                      · exact absurd q47 c60
                      · subst q59
                        have g := wb_t (c := (0 : Int32) = 0) rfl g
                        have g := Option.some.inj g
                        subst g
                        exfalso
                        omega
                  · subst q43
                    unfold BW at c44
                    have g := wb_t (c := (0 : Int32) = 0) rfl g
                    have g := Option.some.inj g
                    subst g
                    exfalso
                    omega
              · rcases al11 h with ⟨c61, h⟩ | ⟨c61, h⟩
                · have g := e3
                  unfold fX12_whose at g
                  obtain ⟨r62, e63, g⟩ := wb_b g
                  rcases iw12 e63 with ⟨c65, q64⟩ | ⟨c65, q64⟩
                  · subst q64
                    unfold BW at c65
                    have g := wb_f (c := (1 : Int32) = 0) (by decide) g
                    obtain ⟨r66, e67, g⟩ := wb_b g
                    rcases ck_within12 (0) (2) (by decide) (by decide) e67 with ⟨q68, c69⟩ | ⟨q68, c69⟩
                    · obtain ⟨r70, e71, g⟩ := wb_b g
                      rcases rt12 rfl (by decide) e71 with ⟨c73, q72⟩ | ⟨c73, q72⟩
                      · subst q72
                        have g := wb_f (c := (1 : Int32) = 0) (by decide) g
                        obtain ⟨r74, e75, g⟩ := wb_b g
                        rcases ck12_isSpan rfl e75 with ⟨c77, q76⟩ | ⟨c77, q76⟩ | ⟨c77, q76⟩
                        · subst q76
                          have g := wb_f (c := (1 : Int32) = 0) (by decide) g
                          exfalso
                          omega
                        · subst q76
                          have g := wb_t (c := (0 : Int32) = 0) rfl g
                          have g := Option.some.inj g
                          subst g
                          exfalso
                          omega
                        · subst q76
                          have g := wb_t (c := (0 : Int32) = 0) rfl g
                          have g := Option.some.inj g
                          subst g
                          exact Or.inr (Or.inl ⟨h, rfl⟩)
                      · exact absurd c73 (by rw [q68]; decide)
                    · obtain ⟨r78, e79, g⟩ := wb_b g
                      rcases rt12 rfl (by decide) e79 with ⟨c81, q80⟩ | ⟨c81, q80⟩
                      · exact absurd q68 c81
                      · subst q80
                        have g := wb_t (c := (0 : Int32) = 0) rfl g
                        have g := Option.some.inj g
                        subst g
                        exfalso
                        omega
                  · subst q64
                    unfold BW at c65
                    have g := wb_t (c := (0 : Int32) = 0) rfl g
                    have g := Option.some.inj g
                    subst g
                    exfalso
                    omega
                · exact absurd q38 c61
          · have h := wb_t q33 h
            unfold fX11_whose_J28 at h
            unfold fX11_whose_J29 at h
            rcases nd11 h with ⟨c82, h⟩ | ⟨c82, h⟩
            · have g := e3
              unfold fX12_whose at g
              obtain ⟨r83, e84, g⟩ := wb_b g
              rcases iw12 e84 with ⟨c86, q85⟩ | ⟨c86, q85⟩
              · subst q85
                unfold BW at c86
                have g := wb_f (c := (1 : Int32) = 0) (by decide) g
                obtain ⟨r87, e88, g⟩ := wb_b g
                rcases ck_within12 (0) (2) (by decide) (by decide) e88 with ⟨q89, c90⟩ | ⟨q89, c90⟩
                · obtain ⟨r91, e92, g⟩ := wb_b g
                  rcases rt12 rfl (by decide) e92 with ⟨c94, q93⟩ | ⟨c94, q93⟩
                  · subst q93
                    have g := wb_f (c := (1 : Int32) = 0) (by decide) g
                    obtain ⟨r95, e96, g⟩ := wb_b g
                    rcases ck12_isSpan rfl e96 with ⟨c98, q97⟩ | ⟨c98, q97⟩ | ⟨c98, q97⟩
                    · subst q97
                      have g := wb_f (c := (1 : Int32) = 0) (by decide) g
                      exfalso
                      omega
                    · subst q97
                      have g := wb_t (c := (0 : Int32) = 0) rfl g
                      have g := Option.some.inj g
                      subst g
                      exact Or.inl ⟨h, rfl⟩
                    · subst q97
                      have g := wb_t (c := (0 : Int32) = 0) rfl g
                      have g := Option.some.inj g
                      subst g
                      exfalso
                      omega
                  · exact absurd c94 (by rw [q89]; decide)
                · obtain ⟨r99, e100, g⟩ := wb_b g
                  rcases rt12 rfl (by decide) e100 with ⟨c102, q101⟩ | ⟨c102, q101⟩
                  · exact absurd q89 c102
                  · subst q101
                    have g := wb_t (c := (0 : Int32) = 0) rfl g
                    have g := Option.some.inj g
                    subst g
                    exact Or.inl ⟨h, rfl⟩
              · subst q85
                unfold BW at c86
                have g := wb_t (c := (0 : Int32) = 0) rfl g
                have g := Option.some.inj g
                subst g
                exact Or.inl ⟨h, rfl⟩
            · exact absurd rfl c82
        · have h := wb_t q29 h
          unfold fX11_whose_J28 at h
          unfold fX11_whose_J29 at h
          rcases nd11 h with ⟨c103, h⟩ | ⟨c103, h⟩
          · have g := e3
            unfold fX12_whose at g
            obtain ⟨r104, e105, g⟩ := wb_b g
            rcases iw12 e105 with ⟨c107, q106⟩ | ⟨c107, q106⟩
            · subst q106
              unfold BW at c107
              have g := wb_f (c := (1 : Int32) = 0) (by decide) g
              obtain ⟨r108, e109, g⟩ := wb_b g
              rcases ck_within12 (0) (2) (by decide) (by decide) e109 with ⟨q110, c111⟩ | ⟨q110, c111⟩
              · obtain ⟨r112, e113, g⟩ := wb_b g
                rcases rt12 rfl (by decide) e113 with ⟨c115, q114⟩ | ⟨c115, q114⟩
                · subst q114
                  have g := wb_f (c := (1 : Int32) = 0) (by decide) g
                  obtain ⟨r116, e117, g⟩ := wb_b g
                  rcases ck12_isSpan rfl e117 with ⟨c119, q118⟩ | ⟨c119, q118⟩ | ⟨c119, q118⟩
                  · subst q118
                    have g := wb_f (c := (1 : Int32) = 0) (by decide) g
                    exfalso
                    omega
                  · subst q118
                    have g := wb_t (c := (0 : Int32) = 0) rfl g
                    have g := Option.some.inj g
                    subst g
                    exact Or.inl ⟨h, rfl⟩
                  · subst q118
                    have g := wb_t (c := (0 : Int32) = 0) rfl g
                    have g := Option.some.inj g
                    subst g
                    exfalso
                    omega
                · exact absurd c115 (by rw [q110]; decide)
              · obtain ⟨r120, e121, g⟩ := wb_b g
                rcases rt12 rfl (by decide) e121 with ⟨c123, q122⟩ | ⟨c123, q122⟩
                · exact absurd q110 c123
                · subst q122
                  have g := wb_t (c := (0 : Int32) = 0) rfl g
                  have g := Option.some.inj g
                  subst g
                  exact Or.inl ⟨h, rfl⟩
            · subst q106
              unfold BW at c107
              have g := wb_t (c := (0 : Int32) = 0) rfl g
              have g := Option.some.inj g
              subst g
              exact Or.inl ⟨h, rfl⟩
          · exact absurd rfl c103
      · cases z6
  exact fin_2s e1 key

theorem an_place {N : Nat} (hN : 3000000000 ≤ N) {I0 I1 : Nat → Int32} {M0 M1 : Nat → Nat → Int32} {L1 : Int64} {x1 x2 x3 : Int32} {o : Nat → Int64} {r : Int32 × (Nat → Int32) × (Nat → Nat → Int32) × (Nat → Int64)} {s : Int32 × (Nat → Int32) × Int64 × (Nat → Nat → Int32)} (k0 : KX11 I0 M0) (k1 : KX12 I1 M1) (e1 : fL_place N I0 M0 x1 x2 x3 o = some r) (e3 : fX12_place N I1 L1 M1 x1 x2 x3 = some s) (hr : RR I0 M0 I1 M1) : s.2.1 0 = r.1 ∧ (r.1 = 0 → r.2.2.2 0 = s.1.toInt64) := by
  unfold fL_place at e1
  have hr0 := hr.j0 0
  have u1 : (upd I1 0 0 1).toInt = (I1 1).toInt := rfl
  have ht := hr.2.2
  have er := hr.2.1
  have h91 := congrArg Int32.toInt ht.1
  have u2 : (((1 : Int32), upd I1 0 0, L1, M1).snd.fst 1).toInt = (I1 1).toInt := rfl
  have i9 := k0.i9
  have key : ∀ q, fX11_place N I0 M0 x1 x2 x3 = some q → (q = .inl 1 ∧ s.2.1 0 = 1) ∨ ∃ a, q = .inr a ∧ s.2.1 0 = 0 ∧ a = s.1 := by
    intro q h
    unfold fX11_place at h
    obtain ⟨r1, e2, h⟩ := wb_b h
    rcases ck_within (0) (3) (by decide) (by decide) e2 with ⟨q3, c4⟩ | ⟨q3, c4⟩
    · have h := wb_f (by rw [q3]; decide) h
      obtain ⟨r5, e6, h⟩ := wb_b h
      rcases ck_within (0) (6) (by decide) (by decide) e6 with ⟨q7, c8⟩ | ⟨q7, c8⟩
      · have h := wb_f (by rw [q7]; decide) h
        obtain ⟨r9, e10, h⟩ := wb_b h
        rcases ck_isDay e10 with ⟨q11, c12⟩ | ⟨q11, c12⟩
        · have h := wb_f (by rw [q11]; decide) h
          unfold fX11_place_J31 at h
          rcases nd11 h with ⟨c13, h⟩ | ⟨c13, h⟩
          · exact absurd c13 (show ¬ (1 : Int32) = 0 by decide)
          · obtain ⟨a, ha, h⟩ := oki h
            have g := e3
            unfold fX12_place at g
            obtain ⟨J14, eJ15, g⟩ := wb_v g
            subst eJ15
            obtain ⟨r16, e17, g⟩ := wb_b g
            rcases ck_within12 (0) (3) (by decide) (by decide) e17 with ⟨q18, c19⟩ | ⟨q18, c19⟩
            · have g := wb_f (by rw [q18]; decide) g
              obtain ⟨r20, e21, g⟩ := wb_b g
              rcases ck_within12 (0) (6) (by decide) (by decide) e21 with ⟨q22, c23⟩ | ⟨q22, c23⟩
              · have g := wb_f (by rw [q22]; decide) g
                obtain ⟨r24, e25, g⟩ := wb_b g
                rcases ck_within12 (0) (1000000) (by decide) (by decide) e25 with ⟨q26, c27⟩ | ⟨q26, c27⟩
                · have g := wb_f (by rw [q26]; decide) g
                  unfold fX12_place_J40 at g
                  obtain ⟨r28, e29, g⟩ := wb_b g
                  rcases rt12 rfl (by decide) e29 with ⟨c31, q30⟩ | ⟨c31, q30⟩
                  · subst q30
                    have g := wb_f (c := (1 : Int32) = 0) (by decide) g
                    obtain ⟨a2, f2, h⟩ := wb_b h
                    obtain ⟨b2, g2, g⟩ := wb_b g
                    have h := Option.some.inj h
                    have g := Option.some.inj g
                    subst h
                    subst g
                    exact Or.inr ⟨_, ha, rfl, (pl_eq hr0.2.2 (by omega) (by omega) (by omega) f2 g2).1⟩
                  · exact absurd c31 (show ¬ (1 : Int32) = 0 by decide)
                · have g := wb_t q26 g
                  unfold fX12_place_J39 at g
                  unfold fX12_place_J40 at g
                  obtain ⟨r32, e33, g⟩ := wb_b g
                  rcases rt12 rfl (by decide) e33 with ⟨c35, q34⟩ | ⟨c35, q34⟩
                  · exact absurd rfl c35
                  · subst q34
                    have g := wb_t (c := (0 : Int32) = 0) rfl g
                    have g := Option.some.inj g
                    subst g
                    exfalso
                    omega
              · have g := wb_t q22 g
                unfold fX12_place_J39 at g
                unfold fX12_place_J40 at g
                obtain ⟨r36, e37, g⟩ := wb_b g
                rcases rt12 rfl (by decide) e37 with ⟨c39, q38⟩ | ⟨c39, q38⟩
                · exact absurd rfl c39
                · subst q38
                  have g := wb_t (c := (0 : Int32) = 0) rfl g
                  have g := Option.some.inj g
                  subst g
                  exfalso
                  omega
            · have g := wb_t q18 g
              unfold fX12_place_J39 at g
              unfold fX12_place_J40 at g
              obtain ⟨r40, e41, g⟩ := wb_b g
              rcases rt12 rfl (by decide) e41 with ⟨c43, q42⟩ | ⟨c43, q42⟩
              · exact absurd rfl c43
              · subst q42
                have g := wb_t (c := (0 : Int32) = 0) rfl g
                have g := Option.some.inj g
                subst g
                exfalso
                omega
        · have h := wb_t q11 h
          unfold fX11_place_J30 at h
          unfold fX11_place_J31 at h
          rcases nd11 h with ⟨c44, h⟩ | ⟨c44, h⟩
          · have g := e3
            unfold fX12_place at g
            obtain ⟨J45, eJ46, g⟩ := wb_v g
            subst eJ46
            obtain ⟨r47, e48, g⟩ := wb_b g
            rcases ck_within12 (0) (3) (by decide) (by decide) e48 with ⟨q49, c50⟩ | ⟨q49, c50⟩
            · have g := wb_f (by rw [q49]; decide) g
              obtain ⟨r51, e52, g⟩ := wb_b g
              rcases ck_within12 (0) (6) (by decide) (by decide) e52 with ⟨q53, c54⟩ | ⟨q53, c54⟩
              · have g := wb_f (by rw [q53]; decide) g
                obtain ⟨r55, e56, g⟩ := wb_b g
                rcases ck_within12 (0) (1000000) (by decide) (by decide) e56 with ⟨q57, c58⟩ | ⟨q57, c58⟩
                · have g := wb_f (by rw [q57]; decide) g
                  unfold fX12_place_J40 at g
                  obtain ⟨r59, e60, g⟩ := wb_b g
                  rcases rt12 rfl (by decide) e60 with ⟨c62, q61⟩ | ⟨c62, q61⟩
                  · subst q61
                    have g := wb_f (c := (1 : Int32) = 0) (by decide) g
                    exfalso
                    omega
                  · exact absurd c62 (show ¬ (1 : Int32) = 0 by decide)
                · have g := wb_t q57 g
                  unfold fX12_place_J39 at g
                  unfold fX12_place_J40 at g
                  obtain ⟨r63, e64, g⟩ := wb_b g
                  rcases rt12 rfl (by decide) e64 with ⟨c66, q65⟩ | ⟨c66, q65⟩
                  · exact absurd rfl c66
                  · subst q65
                    have g := wb_t (c := (0 : Int32) = 0) rfl g
                    have g := Option.some.inj g
                    subst g
                    exact Or.inl ⟨h, rfl⟩
              · have g := wb_t q53 g
                unfold fX12_place_J39 at g
                unfold fX12_place_J40 at g
                obtain ⟨r67, e68, g⟩ := wb_b g
                rcases rt12 rfl (by decide) e68 with ⟨c70, q69⟩ | ⟨c70, q69⟩
                · exact absurd rfl c70
                · subst q69
                  have g := wb_t (c := (0 : Int32) = 0) rfl g
                  have g := Option.some.inj g
                  subst g
                  exact Or.inl ⟨h, rfl⟩
            · have g := wb_t q49 g
              unfold fX12_place_J39 at g
              unfold fX12_place_J40 at g
              obtain ⟨r71, e72, g⟩ := wb_b g
              rcases rt12 rfl (by decide) e72 with ⟨c74, q73⟩ | ⟨c74, q73⟩
              · exact absurd rfl c74
              · subst q73
                have g := wb_t (c := (0 : Int32) = 0) rfl g
                have g := Option.some.inj g
                subst g
                exact Or.inl ⟨h, rfl⟩
          · exact absurd rfl c44
      · have h := wb_t q7 h
        unfold fX11_place_J30 at h
        unfold fX11_place_J31 at h
        rcases nd11 h with ⟨c75, h⟩ | ⟨c75, h⟩
        · have g := e3
          unfold fX12_place at g
          obtain ⟨J76, eJ77, g⟩ := wb_v g
          subst eJ77
          obtain ⟨r78, e79, g⟩ := wb_b g
          rcases ck_within12 (0) (3) (by decide) (by decide) e79 with ⟨q80, c81⟩ | ⟨q80, c81⟩
          · have g := wb_f (by rw [q80]; decide) g
            obtain ⟨r82, e83, g⟩ := wb_b g
            rcases ck_within12 (0) (6) (by decide) (by decide) e83 with ⟨q84, c85⟩ | ⟨q84, c85⟩
            · have g := wb_f (by rw [q84]; decide) g
              obtain ⟨r86, e87, g⟩ := wb_b g
              rcases ck_within12 (0) (1000000) (by decide) (by decide) e87 with ⟨q88, c89⟩ | ⟨q88, c89⟩
              · have g := wb_f (by rw [q88]; decide) g
                unfold fX12_place_J40 at g
                obtain ⟨r90, e91, g⟩ := wb_b g
                rcases rt12 rfl (by decide) e91 with ⟨c93, q92⟩ | ⟨c93, q92⟩
                · subst q92
                  have g := wb_f (c := (1 : Int32) = 0) (by decide) g
                  exfalso
                  omega
                · exact absurd c93 (show ¬ (1 : Int32) = 0 by decide)
              · have g := wb_t q88 g
                unfold fX12_place_J39 at g
                unfold fX12_place_J40 at g
                obtain ⟨r94, e95, g⟩ := wb_b g
                rcases rt12 rfl (by decide) e95 with ⟨c97, q96⟩ | ⟨c97, q96⟩
                · exact absurd rfl c97
                · subst q96
                  have g := wb_t (c := (0 : Int32) = 0) rfl g
                  have g := Option.some.inj g
                  subst g
                  exact Or.inl ⟨h, rfl⟩
            · have g := wb_t q84 g
              unfold fX12_place_J39 at g
              unfold fX12_place_J40 at g
              obtain ⟨r98, e99, g⟩ := wb_b g
              rcases rt12 rfl (by decide) e99 with ⟨c101, q100⟩ | ⟨c101, q100⟩
              · exact absurd rfl c101
              · subst q100
                have g := wb_t (c := (0 : Int32) = 0) rfl g
                have g := Option.some.inj g
                subst g
                exact Or.inl ⟨h, rfl⟩
          · have g := wb_t q80 g
            unfold fX12_place_J39 at g
            unfold fX12_place_J40 at g
            obtain ⟨r102, e103, g⟩ := wb_b g
            rcases rt12 rfl (by decide) e103 with ⟨c105, q104⟩ | ⟨c105, q104⟩
            · exact absurd rfl c105
            · subst q104
              have g := wb_t (c := (0 : Int32) = 0) rfl g
              have g := Option.some.inj g
              subst g
              exact Or.inl ⟨h, rfl⟩
        · exact absurd rfl c75
    · have h := wb_t q3 h
      unfold fX11_place_J30 at h
      unfold fX11_place_J31 at h
      rcases nd11 h with ⟨c106, h⟩ | ⟨c106, h⟩
      · have g := e3
        unfold fX12_place at g
        obtain ⟨J107, eJ108, g⟩ := wb_v g
        subst eJ108
        obtain ⟨r109, e110, g⟩ := wb_b g
        rcases ck_within12 (0) (3) (by decide) (by decide) e110 with ⟨q111, c112⟩ | ⟨q111, c112⟩
        · have g := wb_f (by rw [q111]; decide) g
          obtain ⟨r113, e114, g⟩ := wb_b g
          rcases ck_within12 (0) (6) (by decide) (by decide) e114 with ⟨q115, c116⟩ | ⟨q115, c116⟩
          · have g := wb_f (by rw [q115]; decide) g
            obtain ⟨r117, e118, g⟩ := wb_b g
            rcases ck_within12 (0) (1000000) (by decide) (by decide) e118 with ⟨q119, c120⟩ | ⟨q119, c120⟩
            · have g := wb_f (by rw [q119]; decide) g
              unfold fX12_place_J40 at g
              obtain ⟨r121, e122, g⟩ := wb_b g
              rcases rt12 rfl (by decide) e122 with ⟨c124, q123⟩ | ⟨c124, q123⟩
              · subst q123
                have g := wb_f (c := (1 : Int32) = 0) (by decide) g
                exfalso
                omega
              · exact absurd c124 (show ¬ (1 : Int32) = 0 by decide)
            · have g := wb_t q119 g
              unfold fX12_place_J39 at g
              unfold fX12_place_J40 at g
              obtain ⟨r125, e126, g⟩ := wb_b g
              rcases rt12 rfl (by decide) e126 with ⟨c128, q127⟩ | ⟨c128, q127⟩
              · exact absurd rfl c128
              · subst q127
                have g := wb_t (c := (0 : Int32) = 0) rfl g
                have g := Option.some.inj g
                subst g
                exact Or.inl ⟨h, rfl⟩
          · have g := wb_t q115 g
            unfold fX12_place_J39 at g
            unfold fX12_place_J40 at g
            obtain ⟨r129, e130, g⟩ := wb_b g
            rcases rt12 rfl (by decide) e130 with ⟨c132, q131⟩ | ⟨c132, q131⟩
            · exact absurd rfl c132
            · subst q131
              have g := wb_t (c := (0 : Int32) = 0) rfl g
              have g := Option.some.inj g
              subst g
              exact Or.inl ⟨h, rfl⟩
        · have g := wb_t q111 g
          unfold fX12_place_J39 at g
          unfold fX12_place_J40 at g
          obtain ⟨r133, e134, g⟩ := wb_b g
          rcases rt12 rfl (by decide) e134 with ⟨c136, q135⟩ | ⟨c136, q135⟩
          · exact absurd rfl c136
          · subst q135
            have g := wb_t (c := (0 : Int32) = 0) rfl g
            have g := Option.some.inj g
            subst g
            exact Or.inl ⟨h, rfl⟩
      · exact absurd rfl c106
  exact fin_1n e1 key
theorem an_cost {N : Nat} (hN : 3000000000 ≤ N) {I0 I1 : Nat → Int32} {M0 M1 : Nat → Nat → Int32} {L1 : Int64} {x1 x2 x3 x4 : Int32} {o : Nat → Int64} {r : Int32 × (Nat → Int32) × (Nat → Nat → Int32) × (Nat → Int64)} {s : Int32 × (Nat → Int32) × Int64 × (Nat → Nat → Int32)} (k0 : KX11 I0 M0) (k1 : KX12 I1 M1) (e1 : fL_cost N I0 M0 x1 x2 x3 x4 o = some r) (e3 : fX12_cost N I1 L1 M1 x1 x2 x3 x4 = some s) (hr : RR I0 M0 I1 M1) : s.2.1 0 = r.1 ∧ (r.1 = 0 → r.2.2.2 0 = s.1.toInt64) := by
  unfold fL_cost at e1
  have hr0 := hr.j0 0
  have u1 : (upd I1 0 0 1).toInt = (I1 1).toInt := rfl
  have ht := hr.2.2
  have er := hr.2.1
  have h91 := congrArg Int32.toInt ht.1
  have u2 : (((1 : Int32), upd I1 0 0, L1, M1).snd.fst 1).toInt = (I1 1).toInt := rfl
  have i9 := k0.i9
  have key : ∀ q, fX11_cost N I0 M0 x1 x2 x3 x4 = some q → (q = .inl 1 ∧ s.2.1 0 = 1) ∨ ∃ a, q = .inr a ∧ s.2.1 0 = 0 ∧ a = s.1 := by
    intro q h
    unfold fX11_cost at h
    rcases xbi h with ⟨k2, h13, h⟩ | ⟨n4, h13, h⟩
    · rcases nb11 h13 with ⟨-, z6⟩ | ⟨cb5, z6⟩
      · cases z6
      · have z6 := Sum.inl.inj z6
        rw [z6] at h
        unfold BW at cb5
        have g := e3
        unfold fX12_cost at g
        obtain ⟨r7, e8, g⟩ := wb_b g
        rcases iw12 e8 with ⟨c10, q9⟩ | ⟨c10, q9⟩
        · subst q9
          unfold BW at c10
          have g := wb_f (c := (1 : Int32) = 0) (by decide) g
          obtain ⟨r11, e12, g⟩ := wb_b g
          rcases ck_within12 (0) (3) (by decide) (by decide) e12 with ⟨q13, c14⟩ | ⟨q13, c14⟩
          · have g := wb_f (by rw [q13]; decide) g
            obtain ⟨r15, e16, g⟩ := wb_b g
            rcases ck_within12 (0) (1000000) (by decide) (by decide) e16 with ⟨q17, c18⟩ | ⟨q17, c18⟩
            · have g := wb_f (by rw [q17]; decide) g
              unfold fX12_cost_J35 at g
              obtain ⟨r19, e20, g⟩ := wb_b g
              rcases rt12 rfl (by decide) e20 with ⟨c22, q21⟩ | ⟨c22, q21⟩
              · subst q21
                have g := wb_f (c := (1 : Int32) = 0) (by decide) g
                exfalso
                omega
              · exact absurd c22 (show ¬ (1 : Int32) = 0 by decide)
            · have g := wb_t q17 g
              unfold fX12_cost_J34 at g
              unfold fX12_cost_J35 at g
              obtain ⟨r23, e24, g⟩ := wb_b g
              rcases rt12 rfl (by decide) e24 with ⟨c26, q25⟩ | ⟨c26, q25⟩
              · exact absurd rfl c26
              · subst q25
                have g := wb_t (c := (0 : Int32) = 0) rfl g
                have g := Option.some.inj g
                subst g
                exact Or.inl ⟨h, rfl⟩
          · have g := wb_t q13 g
            unfold fX12_cost_J34 at g
            unfold fX12_cost_J35 at g
            obtain ⟨r27, e28, g⟩ := wb_b g
            rcases rt12 rfl (by decide) e28 with ⟨c30, q29⟩ | ⟨c30, q29⟩
            · exact absurd rfl c30
            · subst q29
              have g := wb_t (c := (0 : Int32) = 0) rfl g
              have g := Option.some.inj g
              subst g
              exact Or.inl ⟨h, rfl⟩
        · subst q9
          unfold BW at c10
          have g := wb_t (c := (0 : Int32) = 0) rfl g
          have g := Option.some.inj g
          subst g
          exact Or.inl ⟨h, rfl⟩
    · rcases nb11 h13 with ⟨cb5, z6⟩ | ⟨-, z6⟩
      · have z6 := Sum.inr.inj z6
        rw [z6] at h
        unfold BW at cb5
        obtain ⟨r31, e32, h⟩ := wb_b h
        rcases ck_within (0) (3) (by decide) (by decide) e32 with ⟨q33, c34⟩ | ⟨q33, c34⟩
        · have h := wb_f (by rw [q33]; decide) h
          obtain ⟨r35, e36, h⟩ := wb_b h
          rcases ck_isDay e36 with ⟨q37, c38⟩ | ⟨q37, c38⟩
          · have h := wb_f (by rw [q37]; decide) h
            unfold fX11_cost_J29 at h
            rcases nd11 h with ⟨c39, h⟩ | ⟨c39, h⟩
            · exact absurd c39 (show ¬ (1 : Int32) = 0 by decide)
            · obtain ⟨a, ha, h⟩ := oki h
              have g := e3
              unfold fX12_cost at g
              obtain ⟨r40, e41, g⟩ := wb_b g
              rcases iw12 e41 with ⟨c43, q42⟩ | ⟨c43, q42⟩
              · subst q42
                unfold BW at c43
                have g := wb_f (c := (1 : Int32) = 0) (by decide) g
                obtain ⟨r44, e45, g⟩ := wb_b g
                rcases ck_within12 (0) (3) (by decide) (by decide) e45 with ⟨q46, c47⟩ | ⟨q46, c47⟩
                · have g := wb_f (by rw [q46]; decide) g
                  obtain ⟨r48, e49, g⟩ := wb_b g
                  rcases ck_within12 (0) (1000000) (by decide) (by decide) e49 with ⟨q50, c51⟩ | ⟨q50, c51⟩
                  · have g := wb_f (by rw [q50]; decide) g
                    unfold fX12_cost_J35 at g
                    obtain ⟨r52, e53, g⟩ := wb_b g
                    rcases rt12 rfl (by decide) e53 with ⟨c55, q54⟩ | ⟨c55, q54⟩
                    · subst q54
                      have g := wb_f (c := (1 : Int32) = 0) (by decide) g
                      obtain ⟨a2, f2, h⟩ := wb_b h
                      obtain ⟨b2, g2, g⟩ := wb_b g
                      have h := Option.some.inj h
                      have g := Option.some.inj g
                      subst h
                      subst g
                      exact Or.inr ⟨_, ha, rfl, (co_eq hr0.2.2 er k0.m13 (by omega) (by omega) (Or.inr ⟨by decide, by decide⟩) f2 g2).1⟩
                    · exact absurd c55 (show ¬ (1 : Int32) = 0 by decide)
                  · have g := wb_t q50 g
                    unfold fX12_cost_J34 at g
                    unfold fX12_cost_J35 at g
                    obtain ⟨r56, e57, g⟩ := wb_b g
                    rcases rt12 rfl (by decide) e57 with ⟨c59, q58⟩ | ⟨c59, q58⟩
                    · exact absurd rfl c59
                    · subst q58
                      have g := wb_t (c := (0 : Int32) = 0) rfl g
                      have g := Option.some.inj g
                      subst g
                      exfalso
                      omega
                · have g := wb_t q46 g
                  unfold fX12_cost_J34 at g
                  unfold fX12_cost_J35 at g
                  obtain ⟨r60, e61, g⟩ := wb_b g
                  rcases rt12 rfl (by decide) e61 with ⟨c63, q62⟩ | ⟨c63, q62⟩
                  · exact absurd rfl c63
                  · subst q62
                    have g := wb_t (c := (0 : Int32) = 0) rfl g
                    have g := Option.some.inj g
                    subst g
                    exfalso
                    omega
              · subst q42
                unfold BW at c43
                have g := wb_t (c := (0 : Int32) = 0) rfl g
                have g := Option.some.inj g
                subst g
                exfalso
                omega
          · have h := wb_t q37 h
            unfold fX11_cost_J28 at h
            unfold fX11_cost_J29 at h
            rcases nd11 h with ⟨c64, h⟩ | ⟨c64, h⟩
            · have g := e3
              unfold fX12_cost at g
              obtain ⟨r65, e66, g⟩ := wb_b g
              rcases iw12 e66 with ⟨c68, q67⟩ | ⟨c68, q67⟩
              · subst q67
                unfold BW at c68
                have g := wb_f (c := (1 : Int32) = 0) (by decide) g
                obtain ⟨r69, e70, g⟩ := wb_b g
                rcases ck_within12 (0) (3) (by decide) (by decide) e70 with ⟨q71, c72⟩ | ⟨q71, c72⟩
                · have g := wb_f (by rw [q71]; decide) g
                  obtain ⟨r73, e74, g⟩ := wb_b g
                  rcases ck_within12 (0) (1000000) (by decide) (by decide) e74 with ⟨q75, c76⟩ | ⟨q75, c76⟩
                  · have g := wb_f (by rw [q75]; decide) g
                    unfold fX12_cost_J35 at g
                    obtain ⟨r77, e78, g⟩ := wb_b g
                    rcases rt12 rfl (by decide) e78 with ⟨c80, q79⟩ | ⟨c80, q79⟩
                    · subst q79
                      have g := wb_f (c := (1 : Int32) = 0) (by decide) g
                      exfalso
                      omega
                    · exact absurd c80 (show ¬ (1 : Int32) = 0 by decide)
                  · have g := wb_t q75 g
                    unfold fX12_cost_J34 at g
                    unfold fX12_cost_J35 at g
                    obtain ⟨r81, e82, g⟩ := wb_b g
                    rcases rt12 rfl (by decide) e82 with ⟨c84, q83⟩ | ⟨c84, q83⟩
                    · exact absurd rfl c84
                    · subst q83
                      have g := wb_t (c := (0 : Int32) = 0) rfl g
                      have g := Option.some.inj g
                      subst g
                      exact Or.inl ⟨h, rfl⟩
                · have g := wb_t q71 g
                  unfold fX12_cost_J34 at g
                  unfold fX12_cost_J35 at g
                  obtain ⟨r85, e86, g⟩ := wb_b g
                  rcases rt12 rfl (by decide) e86 with ⟨c88, q87⟩ | ⟨c88, q87⟩
                  · exact absurd rfl c88
                  · subst q87
                    have g := wb_t (c := (0 : Int32) = 0) rfl g
                    have g := Option.some.inj g
                    subst g
                    exact Or.inl ⟨h, rfl⟩
              · subst q67
                unfold BW at c68
                have g := wb_t (c := (0 : Int32) = 0) rfl g
                have g := Option.some.inj g
                subst g
                exact Or.inl ⟨h, rfl⟩
            · exact absurd rfl c64
        · have h := wb_t q33 h
          unfold fX11_cost_J28 at h
          unfold fX11_cost_J29 at h
          rcases nd11 h with ⟨c89, h⟩ | ⟨c89, h⟩
          · have g := e3
            unfold fX12_cost at g
            obtain ⟨r90, e91, g⟩ := wb_b g
            rcases iw12 e91 with ⟨c93, q92⟩ | ⟨c93, q92⟩
            · subst q92
              unfold BW at c93
              have g := wb_f (c := (1 : Int32) = 0) (by decide) g
              obtain ⟨r94, e95, g⟩ := wb_b g
              rcases ck_within12 (0) (3) (by decide) (by decide) e95 with ⟨q96, c97⟩ | ⟨q96, c97⟩
              · have g := wb_f (by rw [q96]; decide) g
                obtain ⟨r98, e99, g⟩ := wb_b g
                rcases ck_within12 (0) (1000000) (by decide) (by decide) e99 with ⟨q100, c101⟩ | ⟨q100, c101⟩
                · have g := wb_f (by rw [q100]; decide) g
                  unfold fX12_cost_J35 at g
                  obtain ⟨r102, e103, g⟩ := wb_b g
                  rcases rt12 rfl (by decide) e103 with ⟨c105, q104⟩ | ⟨c105, q104⟩
                  · subst q104
                    have g := wb_f (c := (1 : Int32) = 0) (by decide) g
                    exfalso
                    omega
                  · exact absurd c105 (show ¬ (1 : Int32) = 0 by decide)
                · have g := wb_t q100 g
                  unfold fX12_cost_J34 at g
                  unfold fX12_cost_J35 at g
                  obtain ⟨r106, e107, g⟩ := wb_b g
                  rcases rt12 rfl (by decide) e107 with ⟨c109, q108⟩ | ⟨c109, q108⟩
                  · exact absurd rfl c109
                  · subst q108
                    have g := wb_t (c := (0 : Int32) = 0) rfl g
                    have g := Option.some.inj g
                    subst g
                    exact Or.inl ⟨h, rfl⟩
              · have g := wb_t q96 g
                unfold fX12_cost_J34 at g
                unfold fX12_cost_J35 at g
                obtain ⟨r110, e111, g⟩ := wb_b g
                rcases rt12 rfl (by decide) e111 with ⟨c113, q112⟩ | ⟨c113, q112⟩
                · exact absurd rfl c113
                · subst q112
                  have g := wb_t (c := (0 : Int32) = 0) rfl g
                  have g := Option.some.inj g
                  subst g
                  exact Or.inl ⟨h, rfl⟩
            · subst q92
              unfold BW at c93
              have g := wb_t (c := (0 : Int32) = 0) rfl g
              have g := Option.some.inj g
              subst g
              exact Or.inl ⟨h, rfl⟩
          · exact absurd rfl c89
      · cases z6
  exact fin_1n e1 key
theorem an_misread {N : Nat} (hN : 3000000000 ≤ N) {I0 I1 : Nat → Int32} {M0 M1 : Nat → Nat → Int32} {L1 : Int64} {x1 x2 x3 x4 x5 : Int32} {o : Nat → Int64} {r : Int32 × (Nat → Int32) × (Nat → Nat → Int32) × (Nat → Int64)} {s : Int32 × (Nat → Int32) × Int64 × (Nat → Nat → Int32)} (k0 : KX11 I0 M0) (k1 : KX12 I1 M1) (e1 : fL_misread N I0 M0 x1 x2 x3 x4 x5 o = some r) (e3 : fX12_misread N I1 L1 M1 x1 x2 x3 x4 x5 = some s) (hr : RR I0 M0 I1 M1) : s.2.1 0 = r.1 ∧ (r.1 = 0 → r.2.2.2 0 = s.1.toInt64) := by
  unfold fL_misread at e1
  have hr0 := hr.j0 0
  have u1 : (upd I1 0 0 1).toInt = (I1 1).toInt := rfl
  have ht := hr.2.2
  have er := hr.2.1
  have h91 := congrArg Int32.toInt ht.1
  have u2 : (((1 : Int32), upd I1 0 0, L1, M1).snd.fst 1).toInt = (I1 1).toInt := rfl
  have i9 := k0.i9
  have key : ∀ q, fX11_misread N I0 M0 x1 x2 x3 x4 x5 = some q → (q = .inl 1 ∧ s.2.1 0 = 1) ∨ ∃ a, q = .inr a ∧ s.2.1 0 = 0 ∧ a = s.1 := by
    intro q h
    unfold fX11_misread at h
    rcases xbi h with ⟨k2, h13, h⟩ | ⟨n4, h13, h⟩
    · rcases nb11 h13 with ⟨-, z6⟩ | ⟨cb5, z6⟩
      · cases z6
      · have z6 := Sum.inl.inj z6
        rw [z6] at h
        unfold BW at cb5
        have g := e3
        unfold fX12_misread at g
        obtain ⟨r7, e8, g⟩ := wb_b g
        rcases iw12 e8 with ⟨c10, q9⟩ | ⟨c10, q9⟩
        · subst q9
          unfold BW at c10
          have g := wb_f (c := (1 : Int32) = 0) (by decide) g
          obtain ⟨r11, e12, g⟩ := wb_b g
          rcases ck_within12 (0) (3) (by decide) (by decide) e12 with ⟨q13, c14⟩ | ⟨q13, c14⟩
          · have g := wb_f (by rw [q13]; decide) g
            obtain ⟨r15, e16, g⟩ := wb_b g
            rcases ck_within12 (0) (1000000) (by decide) (by decide) e16 with ⟨q17, c18⟩ | ⟨q17, c18⟩
            · have g := wb_f (by rw [q17]; decide) g
              obtain ⟨r19, e20, g⟩ := wb_b g
              rcases ck_within12 (0) (6) (by decide) (by decide) e20 with ⟨q21, c22⟩ | ⟨q21, c22⟩
              · have g := wb_f (by rw [q21]; decide) g
                unfold fX12_misread_J46 at g
                obtain ⟨r23, e24, g⟩ := wb_b g
                rcases rt12 rfl (by decide) e24 with ⟨c26, q25⟩ | ⟨c26, q25⟩
                · subst q25
                  have g := wb_f (c := (1 : Int32) = 0) (by decide) g
                  exfalso
                  omega
                · exact absurd c26 (show ¬ (1 : Int32) = 0 by decide)
              · have g := wb_t q21 g
                unfold fX12_misread_J45 at g
                unfold fX12_misread_J46 at g
                obtain ⟨r27, e28, g⟩ := wb_b g
                rcases rt12 rfl (by decide) e28 with ⟨c30, q29⟩ | ⟨c30, q29⟩
                · exact absurd rfl c30
                · subst q29
                  have g := wb_t (c := (0 : Int32) = 0) rfl g
                  have g := Option.some.inj g
                  subst g
                  exact Or.inl ⟨h, rfl⟩
            · have g := wb_t q17 g
              unfold fX12_misread_J45 at g
              unfold fX12_misread_J46 at g
              obtain ⟨r31, e32, g⟩ := wb_b g
              rcases rt12 rfl (by decide) e32 with ⟨c34, q33⟩ | ⟨c34, q33⟩
              · exact absurd rfl c34
              · subst q33
                have g := wb_t (c := (0 : Int32) = 0) rfl g
                have g := Option.some.inj g
                subst g
                exact Or.inl ⟨h, rfl⟩
          · have g := wb_t q13 g
            unfold fX12_misread_J45 at g
            unfold fX12_misread_J46 at g
            obtain ⟨r35, e36, g⟩ := wb_b g
            rcases rt12 rfl (by decide) e36 with ⟨c38, q37⟩ | ⟨c38, q37⟩
            · exact absurd rfl c38
            · subst q37
              have g := wb_t (c := (0 : Int32) = 0) rfl g
              have g := Option.some.inj g
              subst g
              exact Or.inl ⟨h, rfl⟩
        · subst q9
          unfold BW at c10
          have g := wb_t (c := (0 : Int32) = 0) rfl g
          have g := Option.some.inj g
          subst g
          exact Or.inl ⟨h, rfl⟩
    · rcases nb11 h13 with ⟨cb5, z6⟩ | ⟨-, z6⟩
      · have z6 := Sum.inr.inj z6
        rw [z6] at h
        unfold BW at cb5
        obtain ⟨r39, e40, h⟩ := wb_b h
        rcases ck_within (0) (3) (by decide) (by decide) e40 with ⟨q41, c42⟩ | ⟨q41, c42⟩
        · have h := wb_f (by rw [q41]; decide) h
          obtain ⟨r43, e44, h⟩ := wb_b h
          rcases ck_isDay e44 with ⟨q45, c46⟩ | ⟨q45, c46⟩
          · have h := wb_f (by rw [q45]; decide) h
            obtain ⟨r47, e48, h⟩ := wb_b h
            rcases ck_within (0) (6) (by decide) (by decide) e48 with ⟨q49, c50⟩ | ⟨q49, c50⟩
            · have h := wb_f (by rw [q49]; decide) h
              unfold fX11_misread_J40 at h
              rcases nd11 h with ⟨c51, h⟩ | ⟨c51, h⟩
              · exact absurd c51 (show ¬ (1 : Int32) = 0 by decide)
              · obtain ⟨a, ha, h⟩ := oki h
                have g := e3
                unfold fX12_misread at g
                obtain ⟨r52, e53, g⟩ := wb_b g
                rcases iw12 e53 with ⟨c55, q54⟩ | ⟨c55, q54⟩
                · subst q54
                  unfold BW at c55
                  have g := wb_f (c := (1 : Int32) = 0) (by decide) g
                  obtain ⟨r56, e57, g⟩ := wb_b g
                  rcases ck_within12 (0) (3) (by decide) (by decide) e57 with ⟨q58, c59⟩ | ⟨q58, c59⟩
                  · have g := wb_f (by rw [q58]; decide) g
                    obtain ⟨r60, e61, g⟩ := wb_b g
                    rcases ck_within12 (0) (1000000) (by decide) (by decide) e61 with ⟨q62, c63⟩ | ⟨q62, c63⟩
                    · have g := wb_f (by rw [q62]; decide) g
                      obtain ⟨r64, e65, g⟩ := wb_b g
                      rcases ck_within12 (0) (6) (by decide) (by decide) e65 with ⟨q66, c67⟩ | ⟨q66, c67⟩
                      · have g := wb_f (by rw [q66]; decide) g
                        unfold fX12_misread_J46 at g
                        obtain ⟨r68, e69, g⟩ := wb_b g
                        rcases rt12 rfl (by decide) e69 with ⟨c71, q70⟩ | ⟨c71, q70⟩
                        · subst q70
                          have g := wb_f (c := (1 : Int32) = 0) (by decide) g
                          obtain ⟨a2, f2, h⟩ := wb_b h
                          obtain ⟨b2, g2, g⟩ := wb_b g
                          have ea := at_eq er f2 g2
                          rw [← ea] at g
                          have rg : -1 ≤ a2.toInt ∧ a2.toInt ≤ 389 := by
                            unfold fX1_degreeOf at f2
                            obtain ⟨-, f2⟩ := wb_n f2
                            rw [← Option.some.inj f2]
                            exact k0.m13 _
                          rcases ifr h with ⟨cc, h⟩ | ⟨cc, h⟩
                          · have h := Option.some.inj h
                            have g := Option.some.inj (wb_t cc g)
                            subst h
                            subst g
                            exact Or.inr ⟨_, ha, rfl, rfl⟩
                          · have g := wb_f cc g
                            have rn : 0 ≤ a2.toInt := by
                              refine Int.not_lt.mp (fun z => cc ?_)
                              apply t32
                              rw [show (-1 : Int32).toInt = -1 from by decide]
                              omega
                            obtain ⟨a3, f3, h⟩ := wb_b h
                            obtain ⟨a4, f4, h⟩ := wb_b h
                            obtain ⟨b3, g3, g⟩ := wb_b g
                            obtain ⟨b4, g4, g⟩ := wb_b g
                            have h := Option.some.inj h
                            have g := Option.some.inj g
                            unfold fX5_degreeOn at f3
                            obtain ⟨p, fp, f3⟩ := wb_b f3
                            have f3 := Option.some.inj f3
                            obtain ⟨ep, p0, p1⟩ := pl_eq hr0.2.2 (by omega) (by omega) (by omega) fp g3
                            have dp := dv60 p0 p1
                            rw [← f3] at f4
                            rw [← ep] at g4
                            have e4 := (mis_eq hr0.2.2 rfl ⟨rn, rg.2⟩ ⟨dp.1, by omega⟩ f4 g4).1
                            subst h
                            subst g
                            exact Or.inr ⟨_, ha, rfl, e4⟩
                        · exact absurd c71 (show ¬ (1 : Int32) = 0 by decide)
                      · have g := wb_t q66 g
                        unfold fX12_misread_J45 at g
                        unfold fX12_misread_J46 at g
                        obtain ⟨r72, e73, g⟩ := wb_b g
                        rcases rt12 rfl (by decide) e73 with ⟨c75, q74⟩ | ⟨c75, q74⟩
                        · exact absurd rfl c75
                        · subst q74
                          have g := wb_t (c := (0 : Int32) = 0) rfl g
                          have g := Option.some.inj g
                          subst g
                          exfalso
                          omega
                    · have g := wb_t q62 g
                      unfold fX12_misread_J45 at g
                      unfold fX12_misread_J46 at g
                      obtain ⟨r76, e77, g⟩ := wb_b g
                      rcases rt12 rfl (by decide) e77 with ⟨c79, q78⟩ | ⟨c79, q78⟩
                      · exact absurd rfl c79
                      · subst q78
                        have g := wb_t (c := (0 : Int32) = 0) rfl g
                        have g := Option.some.inj g
                        subst g
                        exfalso
                        omega
                  · have g := wb_t q58 g
                    unfold fX12_misread_J45 at g
                    unfold fX12_misread_J46 at g
                    obtain ⟨r80, e81, g⟩ := wb_b g
                    rcases rt12 rfl (by decide) e81 with ⟨c83, q82⟩ | ⟨c83, q82⟩
                    · exact absurd rfl c83
                    · subst q82
                      have g := wb_t (c := (0 : Int32) = 0) rfl g
                      have g := Option.some.inj g
                      subst g
                      exfalso
                      omega
                · subst q54
                  unfold BW at c55
                  have g := wb_t (c := (0 : Int32) = 0) rfl g
                  have g := Option.some.inj g
                  subst g
                  exfalso
                  omega
            · have h := wb_t q49 h
              unfold fX11_misread_J39 at h
              unfold fX11_misread_J40 at h
              rcases nd11 h with ⟨c84, h⟩ | ⟨c84, h⟩
              · have g := e3
                unfold fX12_misread at g
                obtain ⟨r85, e86, g⟩ := wb_b g
                rcases iw12 e86 with ⟨c88, q87⟩ | ⟨c88, q87⟩
                · subst q87
                  unfold BW at c88
                  have g := wb_f (c := (1 : Int32) = 0) (by decide) g
                  obtain ⟨r89, e90, g⟩ := wb_b g
                  rcases ck_within12 (0) (3) (by decide) (by decide) e90 with ⟨q91, c92⟩ | ⟨q91, c92⟩
                  · have g := wb_f (by rw [q91]; decide) g
                    obtain ⟨r93, e94, g⟩ := wb_b g
                    rcases ck_within12 (0) (1000000) (by decide) (by decide) e94 with ⟨q95, c96⟩ | ⟨q95, c96⟩
                    · have g := wb_f (by rw [q95]; decide) g
                      obtain ⟨r97, e98, g⟩ := wb_b g
                      rcases ck_within12 (0) (6) (by decide) (by decide) e98 with ⟨q99, c100⟩ | ⟨q99, c100⟩
                      · have g := wb_f (by rw [q99]; decide) g
                        unfold fX12_misread_J46 at g
                        obtain ⟨r101, e102, g⟩ := wb_b g
                        rcases rt12 rfl (by decide) e102 with ⟨c104, q103⟩ | ⟨c104, q103⟩
                        · subst q103
                          have g := wb_f (c := (1 : Int32) = 0) (by decide) g
                          exfalso
                          omega
                        · exact absurd c104 (show ¬ (1 : Int32) = 0 by decide)
                      · have g := wb_t q99 g
                        unfold fX12_misread_J45 at g
                        unfold fX12_misread_J46 at g
                        obtain ⟨r105, e106, g⟩ := wb_b g
                        rcases rt12 rfl (by decide) e106 with ⟨c108, q107⟩ | ⟨c108, q107⟩
                        · exact absurd rfl c108
                        · subst q107
                          have g := wb_t (c := (0 : Int32) = 0) rfl g
                          have g := Option.some.inj g
                          subst g
                          exact Or.inl ⟨h, rfl⟩
                    · have g := wb_t q95 g
                      unfold fX12_misread_J45 at g
                      unfold fX12_misread_J46 at g
                      obtain ⟨r109, e110, g⟩ := wb_b g
                      rcases rt12 rfl (by decide) e110 with ⟨c112, q111⟩ | ⟨c112, q111⟩
                      · exact absurd rfl c112
                      · subst q111
                        have g := wb_t (c := (0 : Int32) = 0) rfl g
                        have g := Option.some.inj g
                        subst g
                        exact Or.inl ⟨h, rfl⟩
                  · have g := wb_t q91 g
                    unfold fX12_misread_J45 at g
                    unfold fX12_misread_J46 at g
                    obtain ⟨r113, e114, g⟩ := wb_b g
                    rcases rt12 rfl (by decide) e114 with ⟨c116, q115⟩ | ⟨c116, q115⟩
                    · exact absurd rfl c116
                    · subst q115
                      have g := wb_t (c := (0 : Int32) = 0) rfl g
                      have g := Option.some.inj g
                      subst g
                      exact Or.inl ⟨h, rfl⟩
                · subst q87
                  unfold BW at c88
                  have g := wb_t (c := (0 : Int32) = 0) rfl g
                  have g := Option.some.inj g
                  subst g
                  exact Or.inl ⟨h, rfl⟩
              · exact absurd rfl c84
          · have h := wb_t q45 h
            unfold fX11_misread_J39 at h
            unfold fX11_misread_J40 at h
            rcases nd11 h with ⟨c117, h⟩ | ⟨c117, h⟩
            · have g := e3
              unfold fX12_misread at g
              obtain ⟨r118, e119, g⟩ := wb_b g
              rcases iw12 e119 with ⟨c121, q120⟩ | ⟨c121, q120⟩
              · subst q120
                unfold BW at c121
                have g := wb_f (c := (1 : Int32) = 0) (by decide) g
                obtain ⟨r122, e123, g⟩ := wb_b g
                rcases ck_within12 (0) (3) (by decide) (by decide) e123 with ⟨q124, c125⟩ | ⟨q124, c125⟩
                · have g := wb_f (by rw [q124]; decide) g
                  obtain ⟨r126, e127, g⟩ := wb_b g
                  rcases ck_within12 (0) (1000000) (by decide) (by decide) e127 with ⟨q128, c129⟩ | ⟨q128, c129⟩
                  · have g := wb_f (by rw [q128]; decide) g
                    obtain ⟨r130, e131, g⟩ := wb_b g
                    rcases ck_within12 (0) (6) (by decide) (by decide) e131 with ⟨q132, c133⟩ | ⟨q132, c133⟩
                    · have g := wb_f (by rw [q132]; decide) g
                      unfold fX12_misread_J46 at g
                      obtain ⟨r134, e135, g⟩ := wb_b g
                      rcases rt12 rfl (by decide) e135 with ⟨c137, q136⟩ | ⟨c137, q136⟩
                      · subst q136
                        have g := wb_f (c := (1 : Int32) = 0) (by decide) g
                        exfalso
                        omega
                      · exact absurd c137 (show ¬ (1 : Int32) = 0 by decide)
                    · have g := wb_t q132 g
                      unfold fX12_misread_J45 at g
                      unfold fX12_misread_J46 at g
                      obtain ⟨r138, e139, g⟩ := wb_b g
                      rcases rt12 rfl (by decide) e139 with ⟨c141, q140⟩ | ⟨c141, q140⟩
                      · exact absurd rfl c141
                      · subst q140
                        have g := wb_t (c := (0 : Int32) = 0) rfl g
                        have g := Option.some.inj g
                        subst g
                        exact Or.inl ⟨h, rfl⟩
                  · have g := wb_t q128 g
                    unfold fX12_misread_J45 at g
                    unfold fX12_misread_J46 at g
                    obtain ⟨r142, e143, g⟩ := wb_b g
                    rcases rt12 rfl (by decide) e143 with ⟨c145, q144⟩ | ⟨c145, q144⟩
                    · exact absurd rfl c145
                    · subst q144
                      have g := wb_t (c := (0 : Int32) = 0) rfl g
                      have g := Option.some.inj g
                      subst g
                      exact Or.inl ⟨h, rfl⟩
                · have g := wb_t q124 g
                  unfold fX12_misread_J45 at g
                  unfold fX12_misread_J46 at g
                  obtain ⟨r146, e147, g⟩ := wb_b g
                  rcases rt12 rfl (by decide) e147 with ⟨c149, q148⟩ | ⟨c149, q148⟩
                  · exact absurd rfl c149
                  · subst q148
                    have g := wb_t (c := (0 : Int32) = 0) rfl g
                    have g := Option.some.inj g
                    subst g
                    exact Or.inl ⟨h, rfl⟩
              · subst q120
                unfold BW at c121
                have g := wb_t (c := (0 : Int32) = 0) rfl g
                have g := Option.some.inj g
                subst g
                exact Or.inl ⟨h, rfl⟩
            · exact absurd rfl c117
        · have h := wb_t q41 h
          unfold fX11_misread_J39 at h
          unfold fX11_misread_J40 at h
          rcases nd11 h with ⟨c150, h⟩ | ⟨c150, h⟩
          · have g := e3
            unfold fX12_misread at g
            obtain ⟨r151, e152, g⟩ := wb_b g
            rcases iw12 e152 with ⟨c154, q153⟩ | ⟨c154, q153⟩
            · subst q153
              unfold BW at c154
              have g := wb_f (c := (1 : Int32) = 0) (by decide) g
              obtain ⟨r155, e156, g⟩ := wb_b g
              rcases ck_within12 (0) (3) (by decide) (by decide) e156 with ⟨q157, c158⟩ | ⟨q157, c158⟩
              · have g := wb_f (by rw [q157]; decide) g
                obtain ⟨r159, e160, g⟩ := wb_b g
                rcases ck_within12 (0) (1000000) (by decide) (by decide) e160 with ⟨q161, c162⟩ | ⟨q161, c162⟩
                · have g := wb_f (by rw [q161]; decide) g
                  obtain ⟨r163, e164, g⟩ := wb_b g
                  rcases ck_within12 (0) (6) (by decide) (by decide) e164 with ⟨q165, c166⟩ | ⟨q165, c166⟩
                  · have g := wb_f (by rw [q165]; decide) g
                    unfold fX12_misread_J46 at g
                    obtain ⟨r167, e168, g⟩ := wb_b g
                    rcases rt12 rfl (by decide) e168 with ⟨c170, q169⟩ | ⟨c170, q169⟩
                    · subst q169
                      have g := wb_f (c := (1 : Int32) = 0) (by decide) g
                      exfalso
                      omega
                    · exact absurd c170 (show ¬ (1 : Int32) = 0 by decide)
                  · have g := wb_t q165 g
                    unfold fX12_misread_J45 at g
                    unfold fX12_misread_J46 at g
                    obtain ⟨r171, e172, g⟩ := wb_b g
                    rcases rt12 rfl (by decide) e172 with ⟨c174, q173⟩ | ⟨c174, q173⟩
                    · exact absurd rfl c174
                    · subst q173
                      have g := wb_t (c := (0 : Int32) = 0) rfl g
                      have g := Option.some.inj g
                      subst g
                      exact Or.inl ⟨h, rfl⟩
                · have g := wb_t q161 g
                  unfold fX12_misread_J45 at g
                  unfold fX12_misread_J46 at g
                  obtain ⟨r175, e176, g⟩ := wb_b g
                  rcases rt12 rfl (by decide) e176 with ⟨c178, q177⟩ | ⟨c178, q177⟩
                  · exact absurd rfl c178
                  · subst q177
                    have g := wb_t (c := (0 : Int32) = 0) rfl g
                    have g := Option.some.inj g
                    subst g
                    exact Or.inl ⟨h, rfl⟩
              · have g := wb_t q157 g
                unfold fX12_misread_J45 at g
                unfold fX12_misread_J46 at g
                obtain ⟨r179, e180, g⟩ := wb_b g
                rcases rt12 rfl (by decide) e180 with ⟨c182, q181⟩ | ⟨c182, q181⟩
                · exact absurd rfl c182
                · subst q181
                  have g := wb_t (c := (0 : Int32) = 0) rfl g
                  have g := Option.some.inj g
                  subst g
                  exact Or.inl ⟨h, rfl⟩
            · subst q153
              unfold BW at c154
              have g := wb_t (c := (0 : Int32) = 0) rfl g
              have g := Option.some.inj g
              subst g
              exact Or.inl ⟨h, rfl⟩
          · exact absurd rfl c150
      · cases z6
  exact fin_1n e1 key
theorem an_handed {N : Nat} (hN : 3000000000 ≤ N) {I0 I1 : Nat → Int32} {M0 M1 : Nat → Nat → Int32} {L1 : Int64} {x1 x2 x3 : Int32} {o : Nat → Int64} {r : Int32 × (Nat → Int32) × (Nat → Nat → Int32) × (Nat → Int64)} {s : Int32 × (Nat → Int32) × Int64 × (Nat → Nat → Int32)} (k0 : KX11 I0 M0) (k1 : KX12 I1 M1) (e1 : fL_handed N I0 M0 x1 x2 x3 o = some r) (e3 : fX12_handed N I1 L1 M1 x1 x2 x3 = some s) (hr : RR I0 M0 I1 M1) : s.2.1 0 = r.1 ∧ (r.1 = 0 → r.2.2.2 0 = s.1.toInt64) := by
  unfold fL_handed at e1
  have hr0 := hr.j0 0
  have u1 : (upd I1 0 0 1).toInt = (I1 1).toInt := rfl
  have ht := hr.2.2
  have er := hr.2.1
  have h91 := congrArg Int32.toInt ht.1
  have u2 : (((1 : Int32), upd I1 0 0, L1, M1).snd.fst 1).toInt = (I1 1).toInt := rfl
  have i9 := k0.i9
  have key : ∀ q, fX11_handed N I0 M0 x1 x2 x3 = some q → (q = .inl 1 ∧ s.2.1 0 = 1) ∨ ∃ a, q = .inr a ∧ s.2.1 0 = 0 ∧ a = s.1 := by
    intro q h
    unfold fX11_handed at h
    obtain ⟨r1, e2, h⟩ := wb_b h
    rcases ck_isBook e2 with ⟨q3, c4⟩ | ⟨q3, c4⟩
    · have h := wb_f (by rw [q3]; decide) h
      obtain ⟨r5, e6, h⟩ := wb_b h
      rcases ck_isBook e6 with ⟨q7, c8⟩ | ⟨q7, c8⟩
      · have h := wb_f (by rw [q7]; decide) h
        obtain ⟨r9, e10, h⟩ := wb_b h
        rcases ck_isBook e10 with ⟨q11, c12⟩ | ⟨q11, c12⟩
        · have h := wb_f (by rw [q11]; decide) h
          unfold fX11_handed_J26 at h
          rcases nd11 h with ⟨c13, h⟩ | ⟨c13, h⟩
          · exact absurd c13 (show ¬ (1 : Int32) = 0 by decide)
          · obtain ⟨a, ha, h⟩ := oki h
            have g := e3
            unfold fX12_handed at g
            obtain ⟨J14, eJ15, g⟩ := wb_v g
            subst eJ15
            obtain ⟨r16, e17, g⟩ := wb_b g
            rcases ck12_isBook rfl e17 with ⟨c19, q18⟩ | ⟨c19, q18⟩
            · subst q18
              have g := wb_f (c := (1 : Int32) = 0) (by decide) g
              obtain ⟨r20, e21, g⟩ := wb_b g
              rcases ck12_isBook rfl e21 with ⟨c23, q22⟩ | ⟨c23, q22⟩
              · subst q22
                have g := wb_f (c := (1 : Int32) = 0) (by decide) g
                obtain ⟨r24, e25, g⟩ := wb_b g
                rcases ck12_isBook rfl e25 with ⟨c27, q26⟩ | ⟨c27, q26⟩
                · subst q26
                  have g := wb_f (c := (1 : Int32) = 0) (by decide) g
                  obtain ⟨a2, f2, h⟩ := wb_b h
                  have h := Option.some.inj h
                  subst h
                  unfold fX1_howManyHanded at f2
                  obtain ⟨w1, w2⟩ := han_l er N N 0 0 f2 g
                  exact Or.inr ⟨_, ha, by rw [w2]; rfl, w1⟩
                · subst q26
                  have g := wb_t (c := (0 : Int32) = 0) rfl g
                  have g := Option.some.inj g
                  subst g
                  exfalso
                  omega
              · subst q22
                have g := wb_t (c := (0 : Int32) = 0) rfl g
                have g := Option.some.inj g
                subst g
                exfalso
                omega
            · subst q18
              have g := wb_t (c := (0 : Int32) = 0) rfl g
              have g := Option.some.inj g
              subst g
              exfalso
              omega
        · have h := wb_t q11 h
          unfold fX11_handed_J25 at h
          unfold fX11_handed_J26 at h
          rcases nd11 h with ⟨c28, h⟩ | ⟨c28, h⟩
          · have g := e3
            unfold fX12_handed at g
            obtain ⟨J29, eJ30, g⟩ := wb_v g
            subst eJ30
            obtain ⟨r31, e32, g⟩ := wb_b g
            rcases ck12_isBook rfl e32 with ⟨c34, q33⟩ | ⟨c34, q33⟩
            · subst q33
              have g := wb_f (c := (1 : Int32) = 0) (by decide) g
              obtain ⟨r35, e36, g⟩ := wb_b g
              rcases ck12_isBook rfl e36 with ⟨c38, q37⟩ | ⟨c38, q37⟩
              · subst q37
                have g := wb_f (c := (1 : Int32) = 0) (by decide) g
                obtain ⟨r39, e40, g⟩ := wb_b g
                rcases ck12_isBook rfl e40 with ⟨c42, q41⟩ | ⟨c42, q41⟩
                · subst q41
                  have g := wb_f (c := (1 : Int32) = 0) (by decide) g
                  exfalso
                  omega
                · subst q41
                  have g := wb_t (c := (0 : Int32) = 0) rfl g
                  have g := Option.some.inj g
                  subst g
                  exact Or.inl ⟨h, rfl⟩
              · subst q37
                have g := wb_t (c := (0 : Int32) = 0) rfl g
                have g := Option.some.inj g
                subst g
                exact Or.inl ⟨h, rfl⟩
            · subst q33
              have g := wb_t (c := (0 : Int32) = 0) rfl g
              have g := Option.some.inj g
              subst g
              exact Or.inl ⟨h, rfl⟩
          · exact absurd rfl c28
      · have h := wb_t q7 h
        unfold fX11_handed_J25 at h
        unfold fX11_handed_J26 at h
        rcases nd11 h with ⟨c43, h⟩ | ⟨c43, h⟩
        · have g := e3
          unfold fX12_handed at g
          obtain ⟨J44, eJ45, g⟩ := wb_v g
          subst eJ45
          obtain ⟨r46, e47, g⟩ := wb_b g
          rcases ck12_isBook rfl e47 with ⟨c49, q48⟩ | ⟨c49, q48⟩
          · subst q48
            have g := wb_f (c := (1 : Int32) = 0) (by decide) g
            obtain ⟨r50, e51, g⟩ := wb_b g
            rcases ck12_isBook rfl e51 with ⟨c53, q52⟩ | ⟨c53, q52⟩
            · subst q52
              have g := wb_f (c := (1 : Int32) = 0) (by decide) g
              obtain ⟨r54, e55, g⟩ := wb_b g
              rcases ck12_isBook rfl e55 with ⟨c57, q56⟩ | ⟨c57, q56⟩
              · subst q56
                have g := wb_f (c := (1 : Int32) = 0) (by decide) g
                exfalso
                omega
              · subst q56
                have g := wb_t (c := (0 : Int32) = 0) rfl g
                have g := Option.some.inj g
                subst g
                exact Or.inl ⟨h, rfl⟩
            · subst q52
              have g := wb_t (c := (0 : Int32) = 0) rfl g
              have g := Option.some.inj g
              subst g
              exact Or.inl ⟨h, rfl⟩
          · subst q48
            have g := wb_t (c := (0 : Int32) = 0) rfl g
            have g := Option.some.inj g
            subst g
            exact Or.inl ⟨h, rfl⟩
        · exact absurd rfl c43
    · have h := wb_t q3 h
      unfold fX11_handed_J25 at h
      unfold fX11_handed_J26 at h
      rcases nd11 h with ⟨c58, h⟩ | ⟨c58, h⟩
      · have g := e3
        unfold fX12_handed at g
        obtain ⟨J59, eJ60, g⟩ := wb_v g
        subst eJ60
        obtain ⟨r61, e62, g⟩ := wb_b g
        rcases ck12_isBook rfl e62 with ⟨c64, q63⟩ | ⟨c64, q63⟩
        · subst q63
          have g := wb_f (c := (1 : Int32) = 0) (by decide) g
          obtain ⟨r65, e66, g⟩ := wb_b g
          rcases ck12_isBook rfl e66 with ⟨c68, q67⟩ | ⟨c68, q67⟩
          · subst q67
            have g := wb_f (c := (1 : Int32) = 0) (by decide) g
            obtain ⟨r69, e70, g⟩ := wb_b g
            rcases ck12_isBook rfl e70 with ⟨c72, q71⟩ | ⟨c72, q71⟩
            · subst q71
              have g := wb_f (c := (1 : Int32) = 0) (by decide) g
              exfalso
              omega
            · subst q71
              have g := wb_t (c := (0 : Int32) = 0) rfl g
              have g := Option.some.inj g
              subst g
              exact Or.inl ⟨h, rfl⟩
          · subst q67
            have g := wb_t (c := (0 : Int32) = 0) rfl g
            have g := Option.some.inj g
            subst g
            exact Or.inl ⟨h, rfl⟩
        · subst q63
          have g := wb_t (c := (0 : Int32) = 0) rfl g
          have g := Option.some.inj g
          subst g
          exact Or.inl ⟨h, rfl⟩
      · exact absurd rfl c58
  exact fin_1n e1 key
theorem an_climb {N : Nat} (hN : 3000000000 ≤ N) {I0 I1 : Nat → Int32} {M0 M1 : Nat → Nat → Int32} {L1 : Int64} {x1 x2 : Int32} {o : Nat → Int64} {r : Int32 × (Nat → Int32) × (Nat → Nat → Int32) × (Nat → Int64)} {s : Int32 × (Nat → Int32) × Int64 × (Nat → Nat → Int32)} (k0 : KX11 I0 M0) (k1 : KX12 I1 M1) (e1 : fL_climb N I0 M0 x1 x2 o = some r) (e3 : fX12_climb N I1 L1 M1 x1 x2 = some s) (hr : RR I0 M0 I1 M1) : s.2.1 0 = r.1 ∧ (r.1 = 0 → r.2.2.2 0 = s.1.toInt64) := by
  unfold fL_climb at e1
  have hr0 := hr.j0 0
  have u1 : (upd I1 0 0 1).toInt = (I1 1).toInt := rfl
  have ht := hr.2.2
  have er := hr.2.1
  have h91 := congrArg Int32.toInt ht.1
  have u2 : (((1 : Int32), upd I1 0 0, L1, M1).snd.fst 1).toInt = (I1 1).toInt := rfl
  have i9 := k0.i9
  have key : ∀ q, fX11_climb N I0 M0 x1 x2 = some q → (q = .inl 1 ∧ s.2.1 0 = 1) ∨ ∃ a, q = .inr a ∧ s.2.1 0 = 0 ∧ a = s.1 := by
    intro q h
    unfold fX11_climb at h
    obtain ⟨r1, e2, h⟩ := wb_b h
    rcases ck_isClimate k0.i9 e2 with ⟨q3, c4⟩ | ⟨q3, c4⟩
    · have h := wb_f (by rw [q3]; decide) h
      obtain ⟨r5, e6, h⟩ := wb_b h
      rcases ck_within (0) (21599) (by decide) (by decide) e6 with ⟨q7, c8⟩ | ⟨q7, c8⟩
      · have h := wb_f (by rw [q7]; decide) h
        unfold fX11_climb_J24 at h
        rcases nd11 h with ⟨c9, h⟩ | ⟨c9, h⟩
        · exact absurd c9 (show ¬ (1 : Int32) = 0 by decide)
        · obtain ⟨a, ha, h⟩ := oki h
          have g := e3
          unfold fX12_climb at g
          obtain ⟨J10, eJ11, g⟩ := wb_v g
          subst eJ11
          obtain ⟨r12, e13, g⟩ := wb_b g
          rcases ck12_isClimate rfl e13 with ⟨c15, q14⟩ | ⟨c15, q14⟩
          · subst q14
            have g := wb_f (c := (1 : Int32) = 0) (by decide) g
            obtain ⟨a2, f2, h⟩ := wb_b h
            obtain ⟨b2, g2, g⟩ := wb_b g
            have h := Option.some.inj h
            have g := Option.some.inj g
            subst h
            subst g
            have hc := CL.of (c := x1.toInt.toNat) hr0.2.2 k1.er1 (show (x1.toInt.toNat : Int) < (I1 1).toInt by omega)
            exact Or.inr ⟨_, ha, rfl, (cb_eq (m := wb_sh M0 5) hc (by omega) (by omega) f2 g2).1⟩
          · subst q14
            have g := wb_t (c := (0 : Int32) = 0) rfl g
            have g := Option.some.inj g
            subst g
            exfalso
            omega
      · have h := wb_t q7 h
        unfold fX11_climb_J23 at h
        unfold fX11_climb_J24 at h
        rcases nd11 h with ⟨c16, h⟩ | ⟨c16, h⟩
        · have g := e3
          unfold fX12_climb at g
          obtain ⟨J17, eJ18, g⟩ := wb_v g
          subst eJ18
          obtain ⟨r19, e20, g⟩ := wb_b g
          rcases ck12_isClimate rfl e20 with ⟨c22, q21⟩ | ⟨c22, q21⟩
          · subst q21
            have g := wb_f (c := (1 : Int32) = 0) (by decide) g
            exfalso
            omega
          · subst q21
            have g := wb_t (c := (0 : Int32) = 0) rfl g
            have g := Option.some.inj g
            subst g
            exact Or.inl ⟨h, rfl⟩
        · exact absurd rfl c16
    · have h := wb_t q3 h
      unfold fX11_climb_J23 at h
      unfold fX11_climb_J24 at h
      rcases nd11 h with ⟨c23, h⟩ | ⟨c23, h⟩
      · have g := e3
        unfold fX12_climb at g
        obtain ⟨J24, eJ25, g⟩ := wb_v g
        subst eJ25
        obtain ⟨r26, e27, g⟩ := wb_b g
        rcases ck12_isClimate rfl e27 with ⟨c29, q28⟩ | ⟨c29, q28⟩
        · subst q28
          have g := wb_f (c := (1 : Int32) = 0) (by decide) g
          exfalso
          omega
        · subst q28
          have g := wb_t (c := (0 : Int32) = 0) rfl g
          have g := Option.some.inj g
          subst g
          exact Or.inl ⟨h, rfl⟩
      · exact absurd rfl c23
  exact fin_1n e1 key
theorem an_rise {N : Nat} (hN : 3000000000 ≤ N) {I0 I1 : Nat → Int32} {M0 M1 : Nat → Nat → Int32} {L1 : Int64} {x1 x2 x3 : Int32} {o : Nat → Int64} {r : Int32 × (Nat → Int32) × (Nat → Nat → Int32) × (Nat → Int64)} {s : Int32 × (Nat → Int32) × Int64 × (Nat → Nat → Int32)} (k0 : KX11 I0 M0) (k1 : KX12 I1 M1) (e1 : fL_rise N I0 M0 x1 x2 x3 o = some r) (e3 : fX12_rise N I1 L1 M1 x1 x2 x3 = some s) (hr : RR I0 M0 I1 M1) : s.2.1 0 = r.1 ∧ (r.1 = 0 → r.2.2.2 0 = s.1.toInt64) := by
  unfold fL_rise at e1
  have hr0 := hr.j0 0
  have u1 : (upd I1 0 0 1).toInt = (I1 1).toInt := rfl
  have ht := hr.2.2
  have er := hr.2.1
  have h91 := congrArg Int32.toInt ht.1
  have u2 : (((1 : Int32), upd I1 0 0, L1, M1).snd.fst 1).toInt = (I1 1).toInt := rfl
  have i9 := k0.i9
  have key : ∀ q, fX11_rise N I0 M0 x1 x2 x3 = some q → (q = .inl 1 ∧ s.2.1 0 = 1) ∨ ∃ a, q = .inr a ∧ s.2.1 0 = 0 ∧ a = s.1 := by
    intro q h
    unfold fX11_rise at h
    obtain ⟨r1, e2, h⟩ := wb_b h
    rcases ck_isClimate k0.i9 e2 with ⟨q3, c4⟩ | ⟨q3, c4⟩
    · have h := wb_f (by rw [q3]; decide) h
      obtain ⟨r5, e6, h⟩ := wb_b h
      rcases ck_within (0) (21599) (by decide) (by decide) e6 with ⟨q7, c8⟩ | ⟨q7, c8⟩
      · have h := wb_f (by rw [q7]; decide) h
        obtain ⟨r9, e10, h⟩ := wb_b h
        rcases ck_within (0) (359) (by decide) (by decide) e10 with ⟨q11, c12⟩ | ⟨q11, c12⟩
        · have h := wb_f (by rw [q11]; decide) h
          unfold fX11_rise_J35 at h
          rcases nd11 h with ⟨c13, h⟩ | ⟨c13, h⟩
          · exact absurd c13 (show ¬ (1 : Int32) = 0 by decide)
          · obtain ⟨a, ha, h⟩ := oki h
            have g := e3
            unfold fX12_rise at g
            obtain ⟨J14, eJ15, g⟩ := wb_v g
            subst eJ15
            obtain ⟨r16, e17, g⟩ := wb_b g
            rcases ck12_isClimate rfl e17 with ⟨c19, q18⟩ | ⟨c19, q18⟩
            · subst q18
              have g := wb_f (c := (1 : Int32) = 0) (by decide) g
              obtain ⟨r20, e21, g⟩ := wb_b g
              rcases ck_within12 (0) (359) (by decide) (by decide) e21 with ⟨q22, c23⟩ | ⟨q22, c23⟩
              · obtain ⟨r24, e25, g⟩ := wb_b g
                rcases rt12 rfl (by decide) e25 with ⟨c27, q26⟩ | ⟨c27, q26⟩
                · subst q26
                  have g := wb_f (c := (1 : Int32) = 0) (by decide) g
                  obtain ⟨a2, f2, h⟩ := wb_b h
                  obtain ⟨b2, g2, g⟩ := wb_b g
                  have h := Option.some.inj h
                  have g := Option.some.inj g
                  subst h
                  subst g
                  have hc := CL.of (c := x1.toInt.toNat) hr0.2.2 k1.er1 (show (x1.toInt.toNat : Int) < (I1 1).toInt by omega)
                  exact Or.inr ⟨_, ha, rfl, (ri_eq (m := wb_sh M0 5) hc (by omega) (by omega) (by omega) f2 g2).1⟩
                · exact absurd c27 (by rw [q22]; decide)
              · obtain ⟨r28, e29, g⟩ := wb_b g
                rcases rt12 rfl (by decide) e29 with ⟨c31, q30⟩ | ⟨c31, q30⟩
                · exact absurd q22 c31
                · subst q30
                  have g := wb_t (c := (0 : Int32) = 0) rfl g
                  have g := Option.some.inj g
                  subst g
                  exfalso
                  omega
            · subst q18
              have g := wb_t (c := (0 : Int32) = 0) rfl g
              have g := Option.some.inj g
              subst g
              exfalso
              omega
        · have h := wb_t q11 h
          unfold fX11_rise_J34 at h
          unfold fX11_rise_J35 at h
          rcases nd11 h with ⟨c32, h⟩ | ⟨c32, h⟩
          · have g := e3
            unfold fX12_rise at g
            obtain ⟨J33, eJ34, g⟩ := wb_v g
            subst eJ34
            obtain ⟨r35, e36, g⟩ := wb_b g
            rcases ck12_isClimate rfl e36 with ⟨c38, q37⟩ | ⟨c38, q37⟩
            · subst q37
              have g := wb_f (c := (1 : Int32) = 0) (by decide) g
              obtain ⟨r39, e40, g⟩ := wb_b g
              rcases ck_within12 (0) (359) (by decide) (by decide) e40 with ⟨q41, c42⟩ | ⟨q41, c42⟩
              · obtain ⟨r43, e44, g⟩ := wb_b g
                rcases rt12 rfl (by decide) e44 with ⟨c46, q45⟩ | ⟨c46, q45⟩
                · subst q45
                  have g := wb_f (c := (1 : Int32) = 0) (by decide) g
                  exfalso
                  omega
                · exact absurd c46 (by rw [q41]; decide)
              · obtain ⟨r47, e48, g⟩ := wb_b g
                rcases rt12 rfl (by decide) e48 with ⟨c50, q49⟩ | ⟨c50, q49⟩
                · exact absurd q41 c50
                · subst q49
                  have g := wb_t (c := (0 : Int32) = 0) rfl g
                  have g := Option.some.inj g
                  subst g
                  exact Or.inl ⟨h, rfl⟩
            · subst q37
              have g := wb_t (c := (0 : Int32) = 0) rfl g
              have g := Option.some.inj g
              subst g
              exact Or.inl ⟨h, rfl⟩
          · exact absurd rfl c32
      · have h := wb_t q7 h
        unfold fX11_rise_J34 at h
        unfold fX11_rise_J35 at h
        rcases nd11 h with ⟨c51, h⟩ | ⟨c51, h⟩
        · have g := e3
          unfold fX12_rise at g
          obtain ⟨J52, eJ53, g⟩ := wb_v g
          subst eJ53
          obtain ⟨r54, e55, g⟩ := wb_b g
          rcases ck12_isClimate rfl e55 with ⟨c57, q56⟩ | ⟨c57, q56⟩
          · subst q56
            have g := wb_f (c := (1 : Int32) = 0) (by decide) g
            obtain ⟨r58, e59, g⟩ := wb_b g
            rcases ck_within12 (0) (359) (by decide) (by decide) e59 with ⟨q60, c61⟩ | ⟨q60, c61⟩
            · obtain ⟨r62, e63, g⟩ := wb_b g
              rcases rt12 rfl (by decide) e63 with ⟨c65, q64⟩ | ⟨c65, q64⟩
              · subst q64
                have g := wb_f (c := (1 : Int32) = 0) (by decide) g
                exfalso
                omega
              · exact absurd c65 (by rw [q60]; decide)
            · obtain ⟨r66, e67, g⟩ := wb_b g
              rcases rt12 rfl (by decide) e67 with ⟨c69, q68⟩ | ⟨c69, q68⟩
              · exact absurd q60 c69
              · subst q68
                have g := wb_t (c := (0 : Int32) = 0) rfl g
                have g := Option.some.inj g
                subst g
                exact Or.inl ⟨h, rfl⟩
          · subst q56
            have g := wb_t (c := (0 : Int32) = 0) rfl g
            have g := Option.some.inj g
            subst g
            exact Or.inl ⟨h, rfl⟩
        · exact absurd rfl c51
    · have h := wb_t q3 h
      unfold fX11_rise_J34 at h
      unfold fX11_rise_J35 at h
      rcases nd11 h with ⟨c70, h⟩ | ⟨c70, h⟩
      · have g := e3
        unfold fX12_rise at g
        obtain ⟨J71, eJ72, g⟩ := wb_v g
        subst eJ72
        obtain ⟨r73, e74, g⟩ := wb_b g
        rcases ck12_isClimate rfl e74 with ⟨c76, q75⟩ | ⟨c76, q75⟩
        · subst q75
          have g := wb_f (c := (1 : Int32) = 0) (by decide) g
          obtain ⟨r77, e78, g⟩ := wb_b g
          rcases ck_within12 (0) (359) (by decide) (by decide) e78 with ⟨q79, c80⟩ | ⟨q79, c80⟩
          · obtain ⟨r81, e82, g⟩ := wb_b g
            rcases rt12 rfl (by decide) e82 with ⟨c84, q83⟩ | ⟨c84, q83⟩
            · subst q83
              have g := wb_f (c := (1 : Int32) = 0) (by decide) g
              exfalso
              omega
            · exact absurd c84 (by rw [q79]; decide)
          · obtain ⟨r85, e86, g⟩ := wb_b g
            rcases rt12 rfl (by decide) e86 with ⟨c88, q87⟩ | ⟨c88, q87⟩
            · exact absurd q79 c88
            · subst q87
              have g := wb_t (c := (0 : Int32) = 0) rfl g
              have g := Option.some.inj g
              subst g
              exact Or.inl ⟨h, rfl⟩
        · subst q75
          have g := wb_t (c := (0 : Int32) = 0) rfl g
          have g := Option.some.inj g
          subst g
          exact Or.inl ⟨h, rfl⟩
      · exact absurd rfl c70
  exact fin_1n e1 key
theorem an_middle {N : Nat} (hN : 3000000000 ≤ N) {I0 I1 : Nat → Int32} {M0 M1 : Nat → Nat → Int32} {L1 : Int64} {x1 x2 : Int32} {o : Nat → Int64} {r : Int32 × (Nat → Int32) × (Nat → Nat → Int32) × (Nat → Int64)} {s : Int32 × (Nat → Int32) × Int64 × (Nat → Nat → Int32)} (k0 : KX11 I0 M0) (k1 : KX12 I1 M1) (e1 : fL_middle N I0 M0 x1 x2 o = some r) (e3 : fX12_middle N I1 L1 M1 x1 x2 = some s) (hr : RR I0 M0 I1 M1) : s.2.1 0 = r.1 ∧ (r.1 = 0 → r.2.2.2 0 = s.1.toInt64) := by
  unfold fL_middle at e1
  have hr0 := hr.j0 0
  have u1 : (upd I1 0 0 1).toInt = (I1 1).toInt := rfl
  have ht := hr.2.2
  have er := hr.2.1
  have h91 := congrArg Int32.toInt ht.1
  have u2 : (((1 : Int32), upd I1 0 0, L1, M1).snd.fst 1).toInt = (I1 1).toInt := rfl
  have i9 := k0.i9
  have key : ∀ q, fX11_middle N I0 M0 x1 x2 = some q → (q = .inl 1 ∧ s.2.1 0 = 1) ∨ ∃ a, q = .inr a ∧ s.2.1 0 = 0 ∧ a = s.1 := by
    intro q h
    unfold fX11_middle at h
    obtain ⟨r1, e2, h⟩ := wb_b h
    rcases ck_isClimate k0.i9 e2 with ⟨q3, c4⟩ | ⟨q3, c4⟩
    · have h := wb_f (by rw [q3]; decide) h
      obtain ⟨r5, e6, h⟩ := wb_b h
      rcases ck_within (0) (21599) (by decide) (by decide) e6 with ⟨q7, c8⟩ | ⟨q7, c8⟩
      · have h := wb_f (by rw [q7]; decide) h
        unfold fX11_middle_J24 at h
        rcases nd11 h with ⟨c9, h⟩ | ⟨c9, h⟩
        · exact absurd c9 (show ¬ (1 : Int32) = 0 by decide)
        · obtain ⟨a, ha, h⟩ := oki h
          have g := e3
          unfold fX12_middle at g
          obtain ⟨J10, eJ11, g⟩ := wb_v g
          subst eJ11
          obtain ⟨r12, e13, g⟩ := wb_b g
          rcases ck12_isClimate rfl e13 with ⟨c15, q14⟩ | ⟨c15, q14⟩
          · subst q14
            have g := wb_f (c := (1 : Int32) = 0) (by decide) g
            obtain ⟨a2, f2, h⟩ := wb_b h
            obtain ⟨b2, g2, g⟩ := wb_b g
            have h := Option.some.inj h
            have g := Option.some.inj g
            subst h
            subst g
            have hc := CL.of (c := x1.toInt.toNat) hr0.2.2 k1.er1 (show (x1.toInt.toNat : Int) < (I1 1).toInt by omega)
            have hc0 := CL.of (c := 0) hr0.2.2 k1.er1 (show ((0 : Nat) : Int) < (I1 1).toInt by omega)
            exact Or.inr ⟨_, ha, rfl, (mi_eq (m := wb_sh M0 5) hc hc0 (by omega) (by omega) f2 g2).1⟩
          · subst q14
            have g := wb_t (c := (0 : Int32) = 0) rfl g
            have g := Option.some.inj g
            subst g
            exfalso
            omega
      · have h := wb_t q7 h
        unfold fX11_middle_J23 at h
        unfold fX11_middle_J24 at h
        rcases nd11 h with ⟨c16, h⟩ | ⟨c16, h⟩
        · have g := e3
          unfold fX12_middle at g
          obtain ⟨J17, eJ18, g⟩ := wb_v g
          subst eJ18
          obtain ⟨r19, e20, g⟩ := wb_b g
          rcases ck12_isClimate rfl e20 with ⟨c22, q21⟩ | ⟨c22, q21⟩
          · subst q21
            have g := wb_f (c := (1 : Int32) = 0) (by decide) g
            exfalso
            omega
          · subst q21
            have g := wb_t (c := (0 : Int32) = 0) rfl g
            have g := Option.some.inj g
            subst g
            exact Or.inl ⟨h, rfl⟩
        · exact absurd rfl c16
    · have h := wb_t q3 h
      unfold fX11_middle_J23 at h
      unfold fX11_middle_J24 at h
      rcases nd11 h with ⟨c23, h⟩ | ⟨c23, h⟩
      · have g := e3
        unfold fX12_middle at g
        obtain ⟨J24, eJ25, g⟩ := wb_v g
        subst eJ25
        obtain ⟨r26, e27, g⟩ := wb_b g
        rcases ck12_isClimate rfl e27 with ⟨c29, q28⟩ | ⟨c29, q28⟩
        · subst q28
          have g := wb_f (c := (1 : Int32) = 0) (by decide) g
          exfalso
          omega
        · subst q28
          have g := wb_t (c := (0 : Int32) = 0) rfl g
          have g := Option.some.inj g
          subst g
          exact Or.inl ⟨h, rfl⟩
      · exact absurd rfl c23
  exact fin_1n e1 key
theorem an_price {N : Nat} (hN : 3000000000 ≤ N) {I0 I1 : Nat → Int32} {M0 M1 : Nat → Nat → Int32} {L1 : Int64} {x1 x2 : Int32} {o : Nat → Int64} {r : Int32 × (Nat → Int32) × (Nat → Nat → Int32) × (Nat → Int64)} {s : Int32 × (Nat → Int32) × Int64 × (Nat → Nat → Int32)} (k0 : KX11 I0 M0) (k1 : KX12 I1 M1) (e1 : fL_price N I0 M0 x1 x2 o = some r) (e3 : fX12_price N I1 L1 M1 x1 x2 = some s) (hr : RR I0 M0 I1 M1) : s.2.1 0 = r.1 ∧ (r.1 = 0 → r.2.2.2 0 = s.1.toInt64) := by
  unfold fL_price at e1
  have hr0 := hr.j0 0
  have u1 : (upd I1 0 0 1).toInt = (I1 1).toInt := rfl
  have ht := hr.2.2
  have er := hr.2.1
  have h91 := congrArg Int32.toInt ht.1
  have u2 : (((1 : Int32), upd I1 0 0, L1, M1).snd.fst 1).toInt = (I1 1).toInt := rfl
  have i9 := k0.i9
  have key : ∀ q, fX11_price N I0 M0 x1 x2 = some q → (q = .inl 1 ∧ s.2.1 0 = 1) ∨ ∃ a, q = .inr a ∧ s.2.1 0 = 0 ∧ a = s.1 := by
    intro q h
    unfold fX11_price at h
    obtain ⟨r1, e2, h⟩ := wb_b h
    rcases ck_isBook e2 with ⟨q3, c4⟩ | ⟨q3, c4⟩
    · have h := wb_f (by rw [q3]; decide) h
      obtain ⟨r5, e6, h⟩ := wb_b h
      rcases ck_isBook e6 with ⟨q7, c8⟩ | ⟨q7, c8⟩
      · have h := wb_f (by rw [q7]; decide) h
        unfold fX11_price_J19 at h
        rcases nd11 h with ⟨c9, h⟩ | ⟨c9, h⟩
        · exact absurd c9 (show ¬ (1 : Int32) = 0 by decide)
        · obtain ⟨a, ha, h⟩ := oki h
          have g := e3
          unfold fX12_price at g
          obtain ⟨J10, eJ11, g⟩ := wb_v g
          subst eJ11
          obtain ⟨r12, e13, g⟩ := wb_b g
          rcases ck12_isBook rfl e13 with ⟨c15, q14⟩ | ⟨c15, q14⟩
          · subst q14
            have g := wb_f (c := (1 : Int32) = 0) (by decide) g
            obtain ⟨r16, e17, g⟩ := wb_b g
            rcases ck12_isBook rfl e17 with ⟨c19, q18⟩ | ⟨c19, q18⟩
            · subst q18
              have g := wb_f (c := (1 : Int32) = 0) (by decide) g
              obtain ⟨a2, f2, h⟩ := wb_b h
              obtain ⟨b2, g2, g⟩ := wb_b g
              have h := Option.some.inj h
              have g := Option.some.inj g
              subst h
              subst g
              exact Or.inr ⟨_, ha, rfl, lk_fX10_priceOf (hm := wb_sh M0 6) hr0.2.2 er k0.m13 rfl f2 g2⟩
            · subst q18
              have g := wb_t (c := (0 : Int32) = 0) rfl g
              have g := Option.some.inj g
              subst g
              exfalso
              omega
          · subst q14
            have g := wb_t (c := (0 : Int32) = 0) rfl g
            have g := Option.some.inj g
            subst g
            exfalso
            omega
      · have h := wb_t q7 h
        unfold fX11_price_J18 at h
        unfold fX11_price_J19 at h
        rcases nd11 h with ⟨c20, h⟩ | ⟨c20, h⟩
        · have g := e3
          unfold fX12_price at g
          obtain ⟨J21, eJ22, g⟩ := wb_v g
          subst eJ22
          obtain ⟨r23, e24, g⟩ := wb_b g
          rcases ck12_isBook rfl e24 with ⟨c26, q25⟩ | ⟨c26, q25⟩
          · subst q25
            have g := wb_f (c := (1 : Int32) = 0) (by decide) g
            obtain ⟨r27, e28, g⟩ := wb_b g
            rcases ck12_isBook rfl e28 with ⟨c30, q29⟩ | ⟨c30, q29⟩
            · subst q29
              have g := wb_f (c := (1 : Int32) = 0) (by decide) g
              exfalso
              omega
            · subst q29
              have g := wb_t (c := (0 : Int32) = 0) rfl g
              have g := Option.some.inj g
              subst g
              exact Or.inl ⟨h, rfl⟩
          · subst q25
            have g := wb_t (c := (0 : Int32) = 0) rfl g
            have g := Option.some.inj g
            subst g
            exact Or.inl ⟨h, rfl⟩
        · exact absurd rfl c20
    · have h := wb_t q3 h
      unfold fX11_price_J18 at h
      unfold fX11_price_J19 at h
      rcases nd11 h with ⟨c31, h⟩ | ⟨c31, h⟩
      · have g := e3
        unfold fX12_price at g
        obtain ⟨J32, eJ33, g⟩ := wb_v g
        subst eJ33
        obtain ⟨r34, e35, g⟩ := wb_b g
        rcases ck12_isBook rfl e35 with ⟨c37, q36⟩ | ⟨c37, q36⟩
        · subst q36
          have g := wb_f (c := (1 : Int32) = 0) (by decide) g
          obtain ⟨r38, e39, g⟩ := wb_b g
          rcases ck12_isBook rfl e39 with ⟨c41, q40⟩ | ⟨c41, q40⟩
          · subst q40
            have g := wb_f (c := (1 : Int32) = 0) (by decide) g
            exfalso
            omega
          · subst q40
            have g := wb_t (c := (0 : Int32) = 0) rfl g
            have g := Option.some.inj g
            subst g
            exact Or.inl ⟨h, rfl⟩
        · subst q36
          have g := wb_t (c := (0 : Int32) = 0) rfl g
          have g := Option.some.inj g
          subst g
          exact Or.inl ⟨h, rfl⟩
      · exact absurd rfl c31
  exact fin_1n e1 key

theorem an_place {N : Nat} (hN : 3000000000 ≤ N) {I0 I1 : Nat → Int32} {M0 M1 : Nat → Nat → Int32} {L1 : Int64} {x1 x2 x3 : Int32} {o : Nat → Int64} {r : Int32 × (Nat → Int32) × (Nat → Nat → Int32) × (Nat → Int64)} {s : Int32 × (Nat → Int32) × Int64 × (Nat → Nat → Int32)} (k0 : KX11 I0 M0) (k1 : KX12 I1 M1) (e1 : fL_place N I0 M0 x1 x2 x3 o = some r) (e3 : fX12_place N I1 L1 M1 x1 x2 x3 = some s) (hr : RR I0 M0 I1 M1) : s.2.1 0 = r.1 ∧ (r.1 = 0 → r.2.2.2 0 = s.1.toInt64) := by
  unfold fL_place at e1
  have hr0 := hr.j0 0
  have u1 : (upd I1 0 0 1).toInt = (I1 1).toInt := rfl
  have ht := hr.2.2
  have er := hr.2.1
  have h91 := congrArg Int32.toInt ht.1
  have u2 : (((1 : Int32), upd I1 0 0, L1, M1).snd.fst 1).toInt = (I1 1).toInt := rfl
  have i9 := k0.i9
  have key : ∀ q, fX11_place N I0 M0 x1 x2 x3 = some q → (q = .inl 1 ∧ s.2.1 0 = 1) ∨ ∃ a, q = .inr a ∧ s.2.1 0 = 0 ∧ a = s.1 := by
    intro q h
    unfold fX11_place at h
    obtain ⟨r1, e2, h⟩ := wb_b h
    rcases ck_within (0) (3) (by decide) (by decide) e2 with ⟨q3, c4⟩ | ⟨q3, c4⟩
    · have h := wb_f (by rw [q3]; decide) h
      obtain ⟨r5, e6, h⟩ := wb_b h
      rcases ck_within (0) (6) (by decide) (by decide) e6 with ⟨q7, c8⟩ | ⟨q7, c8⟩
      · have h := wb_f (by rw [q7]; decide) h
        obtain ⟨r9, e10, h⟩ := wb_b h
        rcases ck_isDay e10 with ⟨q11, c12⟩ | ⟨q11, c12⟩
        · have h := wb_f (by rw [q11]; decide) h
          unfold fX11_place_J31 at h
          rcases nd11 h with ⟨c13, h⟩ | ⟨c13, h⟩
          · exact absurd c13 (show ¬ (1 : Int32) = 0 by decide)
          · obtain ⟨a, ha, h⟩ := oki h
            have g := e3
            unfold fX12_place at g
            obtain ⟨J14, eJ15, g⟩ := wb_v g
            subst eJ15
            obtain ⟨r16, e17, g⟩ := wb_b g
            rcases ck_within12 (0) (3) (by decide) (by decide) e17 with ⟨q18, c19⟩ | ⟨q18, c19⟩
            · have g := wb_f (by rw [q18]; decide) g
              obtain ⟨r20, e21, g⟩ := wb_b g
              rcases ck_within12 (0) (6) (by decide) (by decide) e21 with ⟨q22, c23⟩ | ⟨q22, c23⟩
              · have g := wb_f (by rw [q22]; decide) g
                obtain ⟨r24, e25, g⟩ := wb_b g
                rcases ck_within12 (0) (1000000) (by decide) (by decide) e25 with ⟨q26, c27⟩ | ⟨q26, c27⟩
                · have g := wb_f (by rw [q26]; decide) g
                  unfold fX12_place_J40 at g
                  obtain ⟨r28, e29, g⟩ := wb_b g
                  rcases rt12 rfl (by decide) e29 with ⟨c31, q30⟩ | ⟨c31, q30⟩
                  · subst q30
                    have g := wb_f (c := (1 : Int32) = 0) (by decide) g
                    obtain ⟨a2, f2, h⟩ := wb_b h
                    obtain ⟨b2, g2, g⟩ := wb_b g
                    have h := Option.some.inj h
                    have g := Option.some.inj g
                    subst h
                    subst g
                    exact Or.inr ⟨_, ha, rfl, (pl_eq hr0.2.2 (by omega) (by omega) (by omega) f2 g2).1⟩
                  · exact absurd c31 (show ¬ (1 : Int32) = 0 by decide)
                · have g := wb_t q26 g
                  unfold fX12_place_J39 at g
                  unfold fX12_place_J40 at g
                  obtain ⟨r32, e33, g⟩ := wb_b g
                  rcases rt12 rfl (by decide) e33 with ⟨c35, q34⟩ | ⟨c35, q34⟩
                  · exact absurd rfl c35
                  · subst q34
                    have g := wb_t (c := (0 : Int32) = 0) rfl g
                    have g := Option.some.inj g
                    subst g
                    exfalso
                    omega
              · have g := wb_t q22 g
                unfold fX12_place_J39 at g
                unfold fX12_place_J40 at g
                obtain ⟨r36, e37, g⟩ := wb_b g
                rcases rt12 rfl (by decide) e37 with ⟨c39, q38⟩ | ⟨c39, q38⟩
                · exact absurd rfl c39
                · subst q38
                  have g := wb_t (c := (0 : Int32) = 0) rfl g
                  have g := Option.some.inj g
                  subst g
                  exfalso
                  omega
            · have g := wb_t q18 g
              unfold fX12_place_J39 at g
              unfold fX12_place_J40 at g
              obtain ⟨r40, e41, g⟩ := wb_b g
              rcases rt12 rfl (by decide) e41 with ⟨c43, q42⟩ | ⟨c43, q42⟩
              · exact absurd rfl c43
              · subst q42
                have g := wb_t (c := (0 : Int32) = 0) rfl g
                have g := Option.some.inj g
                subst g
                exfalso
                omega
        · have h := wb_t q11 h
          unfold fX11_place_J30 at h
          unfold fX11_place_J31 at h
          rcases nd11 h with ⟨c44, h⟩ | ⟨c44, h⟩
          · have g := e3
            unfold fX12_place at g
            obtain ⟨J45, eJ46, g⟩ := wb_v g
            subst eJ46
            obtain ⟨r47, e48, g⟩ := wb_b g
            rcases ck_within12 (0) (3) (by decide) (by decide) e48 with ⟨q49, c50⟩ | ⟨q49, c50⟩
            · have g := wb_f (by rw [q49]; decide) g
              obtain ⟨r51, e52, g⟩ := wb_b g
              rcases ck_within12 (0) (6) (by decide) (by decide) e52 with ⟨q53, c54⟩ | ⟨q53, c54⟩
              · have g := wb_f (by rw [q53]; decide) g
                obtain ⟨r55, e56, g⟩ := wb_b g
                rcases ck_within12 (0) (1000000) (by decide) (by decide) e56 with ⟨q57, c58⟩ | ⟨q57, c58⟩
                · have g := wb_f (by rw [q57]; decide) g
                  unfold fX12_place_J40 at g
                  obtain ⟨r59, e60, g⟩ := wb_b g
                  rcases rt12 rfl (by decide) e60 with ⟨c62, q61⟩ | ⟨c62, q61⟩
                  · subst q61
                    have g := wb_f (c := (1 : Int32) = 0) (by decide) g
                    exfalso
                    omega
                  · exact absurd c62 (show ¬ (1 : Int32) = 0 by decide)
                · have g := wb_t q57 g
                  unfold fX12_place_J39 at g
                  unfold fX12_place_J40 at g
                  obtain ⟨r63, e64, g⟩ := wb_b g
                  rcases rt12 rfl (by decide) e64 with ⟨c66, q65⟩ | ⟨c66, q65⟩
                  · exact absurd rfl c66
                  · subst q65
                    have g := wb_t (c := (0 : Int32) = 0) rfl g
                    have g := Option.some.inj g
                    subst g
                    exact Or.inl ⟨h, rfl⟩
              · have g := wb_t q53 g
                unfold fX12_place_J39 at g
                unfold fX12_place_J40 at g
                obtain ⟨r67, e68, g⟩ := wb_b g
                rcases rt12 rfl (by decide) e68 with ⟨c70, q69⟩ | ⟨c70, q69⟩
                · exact absurd rfl c70
                · subst q69
                  have g := wb_t (c := (0 : Int32) = 0) rfl g
                  have g := Option.some.inj g
                  subst g
                  exact Or.inl ⟨h, rfl⟩
            · have g := wb_t q49 g
              unfold fX12_place_J39 at g
              unfold fX12_place_J40 at g
              obtain ⟨r71, e72, g⟩ := wb_b g
              rcases rt12 rfl (by decide) e72 with ⟨c74, q73⟩ | ⟨c74, q73⟩
              · exact absurd rfl c74
              · subst q73
                have g := wb_t (c := (0 : Int32) = 0) rfl g
                have g := Option.some.inj g
                subst g
                exact Or.inl ⟨h, rfl⟩
          · exact absurd rfl c44
      · have h := wb_t q7 h
        unfold fX11_place_J30 at h
        unfold fX11_place_J31 at h
        rcases nd11 h with ⟨c75, h⟩ | ⟨c75, h⟩
        · have g := e3
          unfold fX12_place at g
          obtain ⟨J76, eJ77, g⟩ := wb_v g
          subst eJ77
          obtain ⟨r78, e79, g⟩ := wb_b g
          rcases ck_within12 (0) (3) (by decide) (by decide) e79 with ⟨q80, c81⟩ | ⟨q80, c81⟩
          · have g := wb_f (by rw [q80]; decide) g
            obtain ⟨r82, e83, g⟩ := wb_b g
            rcases ck_within12 (0) (6) (by decide) (by decide) e83 with ⟨q84, c85⟩ | ⟨q84, c85⟩
            · have g := wb_f (by rw [q84]; decide) g
              obtain ⟨r86, e87, g⟩ := wb_b g
              rcases ck_within12 (0) (1000000) (by decide) (by decide) e87 with ⟨q88, c89⟩ | ⟨q88, c89⟩
              · have g := wb_f (by rw [q88]; decide) g
                unfold fX12_place_J40 at g
                obtain ⟨r90, e91, g⟩ := wb_b g
                rcases rt12 rfl (by decide) e91 with ⟨c93, q92⟩ | ⟨c93, q92⟩
                · subst q92
                  have g := wb_f (c := (1 : Int32) = 0) (by decide) g
                  exfalso
                  omega
                · exact absurd c93 (show ¬ (1 : Int32) = 0 by decide)
              · have g := wb_t q88 g
                unfold fX12_place_J39 at g
                unfold fX12_place_J40 at g
                obtain ⟨r94, e95, g⟩ := wb_b g
                rcases rt12 rfl (by decide) e95 with ⟨c97, q96⟩ | ⟨c97, q96⟩
                · exact absurd rfl c97
                · subst q96
                  have g := wb_t (c := (0 : Int32) = 0) rfl g
                  have g := Option.some.inj g
                  subst g
                  exact Or.inl ⟨h, rfl⟩
            · have g := wb_t q84 g
              unfold fX12_place_J39 at g
              unfold fX12_place_J40 at g
              obtain ⟨r98, e99, g⟩ := wb_b g
              rcases rt12 rfl (by decide) e99 with ⟨c101, q100⟩ | ⟨c101, q100⟩
              · exact absurd rfl c101
              · subst q100
                have g := wb_t (c := (0 : Int32) = 0) rfl g
                have g := Option.some.inj g
                subst g
                exact Or.inl ⟨h, rfl⟩
          · have g := wb_t q80 g
            unfold fX12_place_J39 at g
            unfold fX12_place_J40 at g
            obtain ⟨r102, e103, g⟩ := wb_b g
            rcases rt12 rfl (by decide) e103 with ⟨c105, q104⟩ | ⟨c105, q104⟩
            · exact absurd rfl c105
            · subst q104
              have g := wb_t (c := (0 : Int32) = 0) rfl g
              have g := Option.some.inj g
              subst g
              exact Or.inl ⟨h, rfl⟩
        · exact absurd rfl c75
    · have h := wb_t q3 h
      unfold fX11_place_J30 at h
      unfold fX11_place_J31 at h
      rcases nd11 h with ⟨c106, h⟩ | ⟨c106, h⟩
      · have g := e3
        unfold fX12_place at g
        obtain ⟨J107, eJ108, g⟩ := wb_v g
        subst eJ108
        obtain ⟨r109, e110, g⟩ := wb_b g
        rcases ck_within12 (0) (3) (by decide) (by decide) e110 with ⟨q111, c112⟩ | ⟨q111, c112⟩
        · have g := wb_f (by rw [q111]; decide) g
          obtain ⟨r113, e114, g⟩ := wb_b g
          rcases ck_within12 (0) (6) (by decide) (by decide) e114 with ⟨q115, c116⟩ | ⟨q115, c116⟩
          · have g := wb_f (by rw [q115]; decide) g
            obtain ⟨r117, e118, g⟩ := wb_b g
            rcases ck_within12 (0) (1000000) (by decide) (by decide) e118 with ⟨q119, c120⟩ | ⟨q119, c120⟩
            · have g := wb_f (by rw [q119]; decide) g
              unfold fX12_place_J40 at g
              obtain ⟨r121, e122, g⟩ := wb_b g
              rcases rt12 rfl (by decide) e122 with ⟨c124, q123⟩ | ⟨c124, q123⟩
              · subst q123
                have g := wb_f (c := (1 : Int32) = 0) (by decide) g
                exfalso
                omega
              · exact absurd c124 (show ¬ (1 : Int32) = 0 by decide)
            · have g := wb_t q119 g
              unfold fX12_place_J39 at g
              unfold fX12_place_J40 at g
              obtain ⟨r125, e126, g⟩ := wb_b g
              rcases rt12 rfl (by decide) e126 with ⟨c128, q127⟩ | ⟨c128, q127⟩
              · exact absurd rfl c128
              · subst q127
                have g := wb_t (c := (0 : Int32) = 0) rfl g
                have g := Option.some.inj g
                subst g
                exact Or.inl ⟨h, rfl⟩
          · have g := wb_t q115 g
            unfold fX12_place_J39 at g
            unfold fX12_place_J40 at g
            obtain ⟨r129, e130, g⟩ := wb_b g
            rcases rt12 rfl (by decide) e130 with ⟨c132, q131⟩ | ⟨c132, q131⟩
            · exact absurd rfl c132
            · subst q131
              have g := wb_t (c := (0 : Int32) = 0) rfl g
              have g := Option.some.inj g
              subst g
              exact Or.inl ⟨h, rfl⟩
        · have g := wb_t q111 g
          unfold fX12_place_J39 at g
          unfold fX12_place_J40 at g
          obtain ⟨r133, e134, g⟩ := wb_b g
          rcases rt12 rfl (by decide) e134 with ⟨c136, q135⟩ | ⟨c136, q135⟩
          · exact absurd rfl c136
          · subst q135
            have g := wb_t (c := (0 : Int32) = 0) rfl g
            have g := Option.some.inj g
            subst g
            exact Or.inl ⟨h, rfl⟩
      · exact absurd rfl c106
  exact fin_1n e1 key
theorem an_cost {N : Nat} (hN : 3000000000 ≤ N) {I0 I1 : Nat → Int32} {M0 M1 : Nat → Nat → Int32} {L1 : Int64} {x1 x2 x3 x4 : Int32} {o : Nat → Int64} {r : Int32 × (Nat → Int32) × (Nat → Nat → Int32) × (Nat → Int64)} {s : Int32 × (Nat → Int32) × Int64 × (Nat → Nat → Int32)} (k0 : KX11 I0 M0) (k1 : KX12 I1 M1) (e1 : fL_cost N I0 M0 x1 x2 x3 x4 o = some r) (e3 : fX12_cost N I1 L1 M1 x1 x2 x3 x4 = some s) (hr : RR I0 M0 I1 M1) : s.2.1 0 = r.1 ∧ (r.1 = 0 → r.2.2.2 0 = s.1.toInt64) := by
  unfold fL_cost at e1
  have hr0 := hr.j0 0
  have u1 : (upd I1 0 0 1).toInt = (I1 1).toInt := rfl
  have ht := hr.2.2
  have er := hr.2.1
  have h91 := congrArg Int32.toInt ht.1
  have u2 : (((1 : Int32), upd I1 0 0, L1, M1).snd.fst 1).toInt = (I1 1).toInt := rfl
  have i9 := k0.i9
  have key : ∀ q, fX11_cost N I0 M0 x1 x2 x3 x4 = some q → (q = .inl 1 ∧ s.2.1 0 = 1) ∨ ∃ a, q = .inr a ∧ s.2.1 0 = 0 ∧ a = s.1 := by
    intro q h
    unfold fX11_cost at h
    rcases xbi h with ⟨k1, h12, h⟩ | ⟨n3, h12, h⟩
    · rcases nb11 h12 with ⟨-, z5⟩ | ⟨cb4, z5⟩
      · cases z5
      · have z5 := Sum.inl.inj z5
        rw [z5] at h
        unfold BW at cb4
        have g := e3
        unfold fX12_cost at g
        obtain ⟨r6, e7, g⟩ := wb_b g
        rcases iw12 e7 with ⟨c9, q8⟩ | ⟨c9, q8⟩
        · subst q8
          unfold BW at c9
          have g := wb_f (c := (1 : Int32) = 0) (by decide) g
          obtain ⟨r10, e11, g⟩ := wb_b g
          rcases ck_within12 (0) (3) (by decide) (by decide) e11 with ⟨q12, c13⟩ | ⟨q12, c13⟩
          · have g := wb_f (by rw [q12]; decide) g
            obtain ⟨r14, e15, g⟩ := wb_b g
            rcases ck_within12 (0) (1000000) (by decide) (by decide) e15 with ⟨q16, c17⟩ | ⟨q16, c17⟩
            · have g := wb_f (by rw [q16]; decide) g
              unfold fX12_cost_J35 at g
              obtain ⟨r18, e19, g⟩ := wb_b g
              rcases rt12 rfl (by decide) e19 with ⟨c21, q20⟩ | ⟨c21, q20⟩
              · subst q20
                have g := wb_f (c := (1 : Int32) = 0) (by decide) g
                exfalso
                omega
              · exact absurd c21 (show ¬ (1 : Int32) = 0 by decide)
            · have g := wb_t q16 g
              unfold fX12_cost_J34 at g
              unfold fX12_cost_J35 at g
              obtain ⟨r22, e23, g⟩ := wb_b g
              rcases rt12 rfl (by decide) e23 with ⟨c25, q24⟩ | ⟨c25, q24⟩
              · exact absurd rfl c25
              · subst q24
                have g := wb_t (c := (0 : Int32) = 0) rfl g
                have g := Option.some.inj g
                subst g
                exact Or.inl ⟨h, rfl⟩
          · have g := wb_t q12 g
            unfold fX12_cost_J34 at g
            unfold fX12_cost_J35 at g
            obtain ⟨r26, e27, g⟩ := wb_b g
            rcases rt12 rfl (by decide) e27 with ⟨c29, q28⟩ | ⟨c29, q28⟩
            · exact absurd rfl c29
            · subst q28
              have g := wb_t (c := (0 : Int32) = 0) rfl g
              have g := Option.some.inj g
              subst g
              exact Or.inl ⟨h, rfl⟩
        · subst q8
          unfold BW at c9
          have g := wb_t (c := (0 : Int32) = 0) rfl g
          have g := Option.some.inj g
          subst g
          exact Or.inl ⟨h, rfl⟩
    · rcases nb11 h12 with ⟨cb4, z5⟩ | ⟨-, z5⟩
      · have z5 := Sum.inr.inj z5
        rw [z5] at h
        unfold BW at cb4
        obtain ⟨r30, e31, h⟩ := wb_b h
        rcases ck_within (0) (3) (by decide) (by decide) e31 with ⟨q32, c33⟩ | ⟨q32, c33⟩
        · have h := wb_f (by rw [q32]; decide) h
          obtain ⟨r34, e35, h⟩ := wb_b h
          rcases ck_isDay e35 with ⟨q36, c37⟩ | ⟨q36, c37⟩
          · have h := wb_f (by rw [q36]; decide) h
            unfold fX11_cost_J29 at h
            rcases nd11 h with ⟨c38, h⟩ | ⟨c38, h⟩
            · exact absurd c38 (show ¬ (1 : Int32) = 0 by decide)
            · obtain ⟨a, ha, h⟩ := oki h
              have g := e3
              unfold fX12_cost at g
              obtain ⟨r39, e40, g⟩ := wb_b g
              rcases iw12 e40 with ⟨c42, q41⟩ | ⟨c42, q41⟩
              · subst q41
                unfold BW at c42
                have g := wb_f (c := (1 : Int32) = 0) (by decide) g
                obtain ⟨r43, e44, g⟩ := wb_b g
                rcases ck_within12 (0) (3) (by decide) (by decide) e44 with ⟨q45, c46⟩ | ⟨q45, c46⟩
                · have g := wb_f (by rw [q45]; decide) g
                  obtain ⟨r47, e48, g⟩ := wb_b g
                  rcases ck_within12 (0) (1000000) (by decide) (by decide) e48 with ⟨q49, c50⟩ | ⟨q49, c50⟩
                  · have g := wb_f (by rw [q49]; decide) g
                    unfold fX12_cost_J35 at g
                    obtain ⟨r51, e52, g⟩ := wb_b g
                    rcases rt12 rfl (by decide) e52 with ⟨c54, q53⟩ | ⟨c54, q53⟩
                    · subst q53
                      have g := wb_f (c := (1 : Int32) = 0) (by decide) g
                      obtain ⟨a2, f2, h⟩ := wb_b h
                      obtain ⟨b2, g2, g⟩ := wb_b g
                      have h := Option.some.inj h
                      have g := Option.some.inj g
                      subst h
                      subst g
                      exact Or.inr ⟨_, ha, rfl, (co_eq hr0.2.2 er k0.m13 (by omega) (by omega) (Or.inr ⟨by decide, by decide⟩) f2 g2).1⟩
                    · exact absurd c54 (show ¬ (1 : Int32) = 0 by decide)
                  · have g := wb_t q49 g
                    unfold fX12_cost_J34 at g
                    unfold fX12_cost_J35 at g
                    obtain ⟨r55, e56, g⟩ := wb_b g
                    rcases rt12 rfl (by decide) e56 with ⟨c58, q57⟩ | ⟨c58, q57⟩
                    · exact absurd rfl c58
                    · subst q57
                      have g := wb_t (c := (0 : Int32) = 0) rfl g
                      have g := Option.some.inj g
                      subst g
                      exfalso
                      omega
                · have g := wb_t q45 g
                  unfold fX12_cost_J34 at g
                  unfold fX12_cost_J35 at g
                  obtain ⟨r59, e60, g⟩ := wb_b g
                  rcases rt12 rfl (by decide) e60 with ⟨c62, q61⟩ | ⟨c62, q61⟩
                  · exact absurd rfl c62
                  · subst q61
                    have g := wb_t (c := (0 : Int32) = 0) rfl g
                    have g := Option.some.inj g
                    subst g
                    exfalso
                    omega
              · subst q41
                unfold BW at c42
                have g := wb_t (c := (0 : Int32) = 0) rfl g
                have g := Option.some.inj g
                subst g
                exfalso
                omega
          · have h := wb_t q36 h
            unfold fX11_cost_J28 at h
            unfold fX11_cost_J29 at h
            rcases nd11 h with ⟨c63, h⟩ | ⟨c63, h⟩
            · have g := e3
              unfold fX12_cost at g
              obtain ⟨r64, e65, g⟩ := wb_b g
              rcases iw12 e65 with ⟨c67, q66⟩ | ⟨c67, q66⟩
              · subst q66
                unfold BW at c67
                have g := wb_f (c := (1 : Int32) = 0) (by decide) g
                obtain ⟨r68, e69, g⟩ := wb_b g
                rcases ck_within12 (0) (3) (by decide) (by decide) e69 with ⟨q70, c71⟩ | ⟨q70, c71⟩
                · have g := wb_f (by rw [q70]; decide) g
                  obtain ⟨r72, e73, g⟩ := wb_b g
                  rcases ck_within12 (0) (1000000) (by decide) (by decide) e73 with ⟨q74, c75⟩ | ⟨q74, c75⟩
                  · have g := wb_f (by rw [q74]; decide) g
                    unfold fX12_cost_J35 at g
                    obtain ⟨r76, e77, g⟩ := wb_b g
                    rcases rt12 rfl (by decide) e77 with ⟨c79, q78⟩ | ⟨c79, q78⟩
                    · subst q78
                      have g := wb_f (c := (1 : Int32) = 0) (by decide) g
                      exfalso
                      omega
                    · exact absurd c79 (show ¬ (1 : Int32) = 0 by decide)
                  · have g := wb_t q74 g
                    unfold fX12_cost_J34 at g
                    unfold fX12_cost_J35 at g
                    obtain ⟨r80, e81, g⟩ := wb_b g
                    rcases rt12 rfl (by decide) e81 with ⟨c83, q82⟩ | ⟨c83, q82⟩
                    · exact absurd rfl c83
                    · subst q82
                      have g := wb_t (c := (0 : Int32) = 0) rfl g
                      have g := Option.some.inj g
                      subst g
                      exact Or.inl ⟨h, rfl⟩
                · have g := wb_t q70 g
                  unfold fX12_cost_J34 at g
                  unfold fX12_cost_J35 at g
                  obtain ⟨r84, e85, g⟩ := wb_b g
                  rcases rt12 rfl (by decide) e85 with ⟨c87, q86⟩ | ⟨c87, q86⟩
                  · exact absurd rfl c87
                  · subst q86
                    have g := wb_t (c := (0 : Int32) = 0) rfl g
                    have g := Option.some.inj g
                    subst g
                    exact Or.inl ⟨h, rfl⟩
              · subst q66
                unfold BW at c67
                have g := wb_t (c := (0 : Int32) = 0) rfl g
                have g := Option.some.inj g
                subst g
                exact Or.inl ⟨h, rfl⟩
            · exact absurd rfl c63
        · have h := wb_t q32 h
          unfold fX11_cost_J28 at h
          unfold fX11_cost_J29 at h
          rcases nd11 h with ⟨c88, h⟩ | ⟨c88, h⟩
          · have g := e3
            unfold fX12_cost at g
            obtain ⟨r89, e90, g⟩ := wb_b g
            rcases iw12 e90 with ⟨c92, q91⟩ | ⟨c92, q91⟩
            · subst q91
              unfold BW at c92
              have g := wb_f (c := (1 : Int32) = 0) (by decide) g
              obtain ⟨r93, e94, g⟩ := wb_b g
              rcases ck_within12 (0) (3) (by decide) (by decide) e94 with ⟨q95, c96⟩ | ⟨q95, c96⟩
              · have g := wb_f (by rw [q95]; decide) g
                obtain ⟨r97, e98, g⟩ := wb_b g
                rcases ck_within12 (0) (1000000) (by decide) (by decide) e98 with ⟨q99, c100⟩ | ⟨q99, c100⟩
                · have g := wb_f (by rw [q99]; decide) g
                  unfold fX12_cost_J35 at g
                  obtain ⟨r101, e102, g⟩ := wb_b g
                  rcases rt12 rfl (by decide) e102 with ⟨c104, q103⟩ | ⟨c104, q103⟩
                  · subst q103
                    have g := wb_f (c := (1 : Int32) = 0) (by decide) g
                    exfalso
                    omega
                  · exact absurd c104 (show ¬ (1 : Int32) = 0 by decide)
                · have g := wb_t q99 g
                  unfold fX12_cost_J34 at g
                  unfold fX12_cost_J35 at g
                  obtain ⟨r105, e106, g⟩ := wb_b g
                  rcases rt12 rfl (by decide) e106 with ⟨c108, q107⟩ | ⟨c108, q107⟩
                  · exact absurd rfl c108
                  · subst q107
                    have g := wb_t (c := (0 : Int32) = 0) rfl g
                    have g := Option.some.inj g
                    subst g
                    exact Or.inl ⟨h, rfl⟩
              · have g := wb_t q95 g
                unfold fX12_cost_J34 at g
                unfold fX12_cost_J35 at g
                obtain ⟨r109, e110, g⟩ := wb_b g
                rcases rt12 rfl (by decide) e110 with ⟨c112, q111⟩ | ⟨c112, q111⟩
                · exact absurd rfl c112
                · subst q111
                  have g := wb_t (c := (0 : Int32) = 0) rfl g
                  have g := Option.some.inj g
                  subst g
                  exact Or.inl ⟨h, rfl⟩
            · subst q91
              unfold BW at c92
              have g := wb_t (c := (0 : Int32) = 0) rfl g
              have g := Option.some.inj g
              subst g
              exact Or.inl ⟨h, rfl⟩
          · exact absurd rfl c88
      · cases z5
  exact fin_1n e1 key
theorem an_misread {N : Nat} (hN : 3000000000 ≤ N) {I0 I1 : Nat → Int32} {M0 M1 : Nat → Nat → Int32} {L1 : Int64} {x1 x2 x3 x4 x5 : Int32} {o : Nat → Int64} {r : Int32 × (Nat → Int32) × (Nat → Nat → Int32) × (Nat → Int64)} {s : Int32 × (Nat → Int32) × Int64 × (Nat → Nat → Int32)} (k0 : KX11 I0 M0) (k1 : KX12 I1 M1) (e1 : fL_misread N I0 M0 x1 x2 x3 x4 x5 o = some r) (e3 : fX12_misread N I1 L1 M1 x1 x2 x3 x4 x5 = some s) (hr : RR I0 M0 I1 M1) : s.2.1 0 = r.1 ∧ (r.1 = 0 → r.2.2.2 0 = s.1.toInt64) := by
  unfold fL_misread at e1
  have hr0 := hr.j0 0
  have u1 : (upd I1 0 0 1).toInt = (I1 1).toInt := rfl
  have ht := hr.2.2
  have er := hr.2.1
  have h91 := congrArg Int32.toInt ht.1
  have u2 : (((1 : Int32), upd I1 0 0, L1, M1).snd.fst 1).toInt = (I1 1).toInt := rfl
  have i9 := k0.i9
  have key : ∀ q, fX11_misread N I0 M0 x1 x2 x3 x4 x5 = some q → (q = .inl 1 ∧ s.2.1 0 = 1) ∨ ∃ a, q = .inr a ∧ s.2.1 0 = 0 ∧ a = s.1 := by
    intro q h
    unfold fX11_misread at h
    rcases xbi h with ⟨k1, h12, h⟩ | ⟨n3, h12, h⟩
    · rcases nb11 h12 with ⟨-, z5⟩ | ⟨cb4, z5⟩
      · cases z5
      · have z5 := Sum.inl.inj z5
        rw [z5] at h
        unfold BW at cb4
        have g := e3
        unfold fX12_misread at g
        obtain ⟨r6, e7, g⟩ := wb_b g
        rcases iw12 e7 with ⟨c9, q8⟩ | ⟨c9, q8⟩
        · subst q8
          unfold BW at c9
          have g := wb_f (c := (1 : Int32) = 0) (by decide) g
          obtain ⟨r10, e11, g⟩ := wb_b g
          rcases ck_within12 (0) (3) (by decide) (by decide) e11 with ⟨q12, c13⟩ | ⟨q12, c13⟩
          · have g := wb_f (by rw [q12]; decide) g
            obtain ⟨r14, e15, g⟩ := wb_b g
            rcases ck_within12 (0) (1000000) (by decide) (by decide) e15 with ⟨q16, c17⟩ | ⟨q16, c17⟩
            · have g := wb_f (by rw [q16]; decide) g
              obtain ⟨r18, e19, g⟩ := wb_b g
              rcases ck_within12 (0) (6) (by decide) (by decide) e19 with ⟨q20, c21⟩ | ⟨q20, c21⟩
              · have g := wb_f (by rw [q20]; decide) g
                unfold fX12_misread_J46 at g
                obtain ⟨r22, e23, g⟩ := wb_b g
                rcases rt12 rfl (by decide) e23 with ⟨c25, q24⟩ | ⟨c25, q24⟩
                · subst q24
                  have g := wb_f (c := (1 : Int32) = 0) (by decide) g
                  exfalso
                  omega
                · exact absurd c25 (show ¬ (1 : Int32) = 0 by decide)
              · have g := wb_t q20 g
                unfold fX12_misread_J45 at g
                unfold fX12_misread_J46 at g
                obtain ⟨r26, e27, g⟩ := wb_b g
                rcases rt12 rfl (by decide) e27 with ⟨c29, q28⟩ | ⟨c29, q28⟩
                · exact absurd rfl c29
                · subst q28
                  have g := wb_t (c := (0 : Int32) = 0) rfl g
                  have g := Option.some.inj g
                  subst g
                  exact Or.inl ⟨h, rfl⟩
            · have g := wb_t q16 g
              unfold fX12_misread_J45 at g
              unfold fX12_misread_J46 at g
              obtain ⟨r30, e31, g⟩ := wb_b g
              rcases rt12 rfl (by decide) e31 with ⟨c33, q32⟩ | ⟨c33, q32⟩
              · exact absurd rfl c33
              · subst q32
                have g := wb_t (c := (0 : Int32) = 0) rfl g
                have g := Option.some.inj g
                subst g
                exact Or.inl ⟨h, rfl⟩
          · have g := wb_t q12 g
            unfold fX12_misread_J45 at g
            unfold fX12_misread_J46 at g
            obtain ⟨r34, e35, g⟩ := wb_b g
            rcases rt12 rfl (by decide) e35 with ⟨c37, q36⟩ | ⟨c37, q36⟩
            · exact absurd rfl c37
            · subst q36
              have g := wb_t (c := (0 : Int32) = 0) rfl g
              have g := Option.some.inj g
              subst g
              exact Or.inl ⟨h, rfl⟩
        · subst q8
          unfold BW at c9
          have g := wb_t (c := (0 : Int32) = 0) rfl g
          have g := Option.some.inj g
          subst g
          exact Or.inl ⟨h, rfl⟩
    · rcases nb11 h12 with ⟨cb4, z5⟩ | ⟨-, z5⟩
      · have z5 := Sum.inr.inj z5
        rw [z5] at h
        unfold BW at cb4
        obtain ⟨r38, e39, h⟩ := wb_b h
        rcases ck_within (0) (3) (by decide) (by decide) e39 with ⟨q40, c41⟩ | ⟨q40, c41⟩
        · have h := wb_f (by rw [q40]; decide) h
          obtain ⟨r42, e43, h⟩ := wb_b h
          rcases ck_isDay e43 with ⟨q44, c45⟩ | ⟨q44, c45⟩
          · have h := wb_f (by rw [q44]; decide) h
            obtain ⟨r46, e47, h⟩ := wb_b h
            rcases ck_within (0) (6) (by decide) (by decide) e47 with ⟨q48, c49⟩ | ⟨q48, c49⟩
            · have h := wb_f (by rw [q48]; decide) h
              unfold fX11_misread_J40 at h
              rcases nd11 h with ⟨c50, h⟩ | ⟨c50, h⟩
              · exact absurd c50 (show ¬ (1 : Int32) = 0 by decide)
              · obtain ⟨a, ha, h⟩ := oki h
                have g := e3
                unfold fX12_misread at g
                obtain ⟨r51, e52, g⟩ := wb_b g
                rcases iw12 e52 with ⟨c54, q53⟩ | ⟨c54, q53⟩
                · subst q53
                  unfold BW at c54
                  have g := wb_f (c := (1 : Int32) = 0) (by decide) g
                  obtain ⟨r55, e56, g⟩ := wb_b g
                  rcases ck_within12 (0) (3) (by decide) (by decide) e56 with ⟨q57, c58⟩ | ⟨q57, c58⟩
                  · have g := wb_f (by rw [q57]; decide) g
                    obtain ⟨r59, e60, g⟩ := wb_b g
                    rcases ck_within12 (0) (1000000) (by decide) (by decide) e60 with ⟨q61, c62⟩ | ⟨q61, c62⟩
                    · have g := wb_f (by rw [q61]; decide) g
                      obtain ⟨r63, e64, g⟩ := wb_b g
                      rcases ck_within12 (0) (6) (by decide) (by decide) e64 with ⟨q65, c66⟩ | ⟨q65, c66⟩
                      · have g := wb_f (by rw [q65]; decide) g
                        unfold fX12_misread_J46 at g
                        obtain ⟨r67, e68, g⟩ := wb_b g
                        rcases rt12 rfl (by decide) e68 with ⟨c70, q69⟩ | ⟨c70, q69⟩
                        · subst q69
                          have g := wb_f (c := (1 : Int32) = 0) (by decide) g
                          obtain ⟨a2, f2, h⟩ := wb_b h
                          obtain ⟨b2, g2, g⟩ := wb_b g
                          have ea := at_eq er f2 g2
                          rw [← ea] at g
                          have rg : -1 ≤ a2.toInt ∧ a2.toInt ≤ 389 := by
                            unfold fX1_degreeOf at f2
                            obtain ⟨-, f2⟩ := wb_n f2
                            rw [← Option.some.inj f2]
                            exact k0.m13 _
                          rcases ifr h with ⟨cc, h⟩ | ⟨cc, h⟩
                          · have h := Option.some.inj h
                            have g := Option.some.inj (wb_t cc g)
                            subst h
                            subst g
                            exact Or.inr ⟨_, ha, rfl, rfl⟩
                          · have g := wb_f cc g
                            have rn : 0 ≤ a2.toInt := by
                              refine Int.not_lt.mp (fun z => cc ?_)
                              apply t32
                              rw [show (-1 : Int32).toInt = -1 from by decide]
                              omega
                            obtain ⟨a3, f3, h⟩ := wb_b h
                            obtain ⟨a4, f4, h⟩ := wb_b h
                            obtain ⟨b3, g3, g⟩ := wb_b g
                            obtain ⟨b4, g4, g⟩ := wb_b g
                            have h := Option.some.inj h
                            have g := Option.some.inj g
                            unfold fX5_degreeOn at f3
                            obtain ⟨p, fp, f3⟩ := wb_b f3
                            have f3 := Option.some.inj f3
                            obtain ⟨ep, p0, p1⟩ := pl_eq hr0.2.2 (by omega) (by omega) (by omega) fp g3
                            have dp := dv60 p0 p1
                            rw [← f3] at f4
                            rw [← ep] at g4
                            have e4 := (mis_eq hr0.2.2 rfl ⟨rn, rg.2⟩ ⟨dp.1, by omega⟩ f4 g4).1
                            subst h
                            subst g
                            exact Or.inr ⟨_, ha, rfl, e4⟩
                        · exact absurd c70 (show ¬ (1 : Int32) = 0 by decide)
                      · have g := wb_t q65 g
                        unfold fX12_misread_J45 at g
                        unfold fX12_misread_J46 at g
                        obtain ⟨r71, e72, g⟩ := wb_b g
                        rcases rt12 rfl (by decide) e72 with ⟨c74, q73⟩ | ⟨c74, q73⟩
                        · exact absurd rfl c74
                        · subst q73
                          have g := wb_t (c := (0 : Int32) = 0) rfl g
                          have g := Option.some.inj g
                          subst g
                          exfalso
                          omega
                    · have g := wb_t q61 g
                      unfold fX12_misread_J45 at g
                      unfold fX12_misread_J46 at g
                      obtain ⟨r75, e76, g⟩ := wb_b g
                      rcases rt12 rfl (by decide) e76 with ⟨c78, q77⟩ | ⟨c78, q77⟩
                      · exact absurd rfl c78
                      · subst q77
                        have g := wb_t (c := (0 : Int32) = 0) rfl g
                        have g := Option.some.inj g
                        subst g
                        exfalso
                        omega
                  · have g := wb_t q57 g
                    unfold fX12_misread_J45 at g
                    unfold fX12_misread_J46 at g
                    obtain ⟨r79, e80, g⟩ := wb_b g
                    rcases rt12 rfl (by decide) e80 with ⟨c82, q81⟩ | ⟨c82, q81⟩
                    · exact absurd rfl c82
                    · subst q81
                      have g := wb_t (c := (0 : Int32) = 0) rfl g
                      have g := Option.some.inj g
                      subst g
                      exfalso
                      omega
                · subst q53
                  unfold BW at c54
                  have g := wb_t (c := (0 : Int32) = 0) rfl g
                  have g := Option.some.inj g
                  subst g
                  exfalso
                  omega
            · have h := wb_t q48 h
              unfold fX11_misread_J39 at h
              unfold fX11_misread_J40 at h
              rcases nd11 h with ⟨c83, h⟩ | ⟨c83, h⟩
              · have g := e3
                unfold fX12_misread at g
                obtain ⟨r84, e85, g⟩ := wb_b g
                rcases iw12 e85 with ⟨c87, q86⟩ | ⟨c87, q86⟩
                · subst q86
                  unfold BW at c87
                  have g := wb_f (c := (1 : Int32) = 0) (by decide) g
                  obtain ⟨r88, e89, g⟩ := wb_b g
                  rcases ck_within12 (0) (3) (by decide) (by decide) e89 with ⟨q90, c91⟩ | ⟨q90, c91⟩
                  · have g := wb_f (by rw [q90]; decide) g
                    obtain ⟨r92, e93, g⟩ := wb_b g
                    rcases ck_within12 (0) (1000000) (by decide) (by decide) e93 with ⟨q94, c95⟩ | ⟨q94, c95⟩
                    · have g := wb_f (by rw [q94]; decide) g
                      obtain ⟨r96, e97, g⟩ := wb_b g
                      rcases ck_within12 (0) (6) (by decide) (by decide) e97 with ⟨q98, c99⟩ | ⟨q98, c99⟩
                      · have g := wb_f (by rw [q98]; decide) g
                        unfold fX12_misread_J46 at g
                        obtain ⟨r100, e101, g⟩ := wb_b g
                        rcases rt12 rfl (by decide) e101 with ⟨c103, q102⟩ | ⟨c103, q102⟩
                        · subst q102
                          have g := wb_f (c := (1 : Int32) = 0) (by decide) g
                          exfalso
                          omega
                        · exact absurd c103 (show ¬ (1 : Int32) = 0 by decide)
                      · have g := wb_t q98 g
                        unfold fX12_misread_J45 at g
                        unfold fX12_misread_J46 at g
                        obtain ⟨r104, e105, g⟩ := wb_b g
                        rcases rt12 rfl (by decide) e105 with ⟨c107, q106⟩ | ⟨c107, q106⟩
                        · exact absurd rfl c107
                        · subst q106
                          have g := wb_t (c := (0 : Int32) = 0) rfl g
                          have g := Option.some.inj g
                          subst g
                          exact Or.inl ⟨h, rfl⟩
                    · have g := wb_t q94 g
                      unfold fX12_misread_J45 at g
                      unfold fX12_misread_J46 at g
                      obtain ⟨r108, e109, g⟩ := wb_b g
                      rcases rt12 rfl (by decide) e109 with ⟨c111, q110⟩ | ⟨c111, q110⟩
                      · exact absurd rfl c111
                      · subst q110
                        have g := wb_t (c := (0 : Int32) = 0) rfl g
                        have g := Option.some.inj g
                        subst g
                        exact Or.inl ⟨h, rfl⟩
                  · have g := wb_t q90 g
                    unfold fX12_misread_J45 at g
                    unfold fX12_misread_J46 at g
                    obtain ⟨r112, e113, g⟩ := wb_b g
                    rcases rt12 rfl (by decide) e113 with ⟨c115, q114⟩ | ⟨c115, q114⟩
                    · exact absurd rfl c115
                    · subst q114
                      have g := wb_t (c := (0 : Int32) = 0) rfl g
                      have g := Option.some.inj g
                      subst g
                      exact Or.inl ⟨h, rfl⟩
                · subst q86
                  unfold BW at c87
                  have g := wb_t (c := (0 : Int32) = 0) rfl g
                  have g := Option.some.inj g
                  subst g
                  exact Or.inl ⟨h, rfl⟩
              · exact absurd rfl c83
          · have h := wb_t q44 h
            unfold fX11_misread_J39 at h
            unfold fX11_misread_J40 at h
            rcases nd11 h with ⟨c116, h⟩ | ⟨c116, h⟩
            · have g := e3
              unfold fX12_misread at g
              obtain ⟨r117, e118, g⟩ := wb_b g
              rcases iw12 e118 with ⟨c120, q119⟩ | ⟨c120, q119⟩
              · subst q119
                unfold BW at c120
                have g := wb_f (c := (1 : Int32) = 0) (by decide) g
                obtain ⟨r121, e122, g⟩ := wb_b g
                rcases ck_within12 (0) (3) (by decide) (by decide) e122 with ⟨q123, c124⟩ | ⟨q123, c124⟩
                · have g := wb_f (by rw [q123]; decide) g
                  obtain ⟨r125, e126, g⟩ := wb_b g
                  rcases ck_within12 (0) (1000000) (by decide) (by decide) e126 with ⟨q127, c128⟩ | ⟨q127, c128⟩
                  · have g := wb_f (by rw [q127]; decide) g
                    obtain ⟨r129, e130, g⟩ := wb_b g
                    rcases ck_within12 (0) (6) (by decide) (by decide) e130 with ⟨q131, c132⟩ | ⟨q131, c132⟩
                    · have g := wb_f (by rw [q131]; decide) g
                      unfold fX12_misread_J46 at g
                      obtain ⟨r133, e134, g⟩ := wb_b g
                      rcases rt12 rfl (by decide) e134 with ⟨c136, q135⟩ | ⟨c136, q135⟩
                      · subst q135
                        have g := wb_f (c := (1 : Int32) = 0) (by decide) g
                        exfalso
                        omega
                      · exact absurd c136 (show ¬ (1 : Int32) = 0 by decide)
                    · have g := wb_t q131 g
                      unfold fX12_misread_J45 at g
                      unfold fX12_misread_J46 at g
                      obtain ⟨r137, e138, g⟩ := wb_b g
                      rcases rt12 rfl (by decide) e138 with ⟨c140, q139⟩ | ⟨c140, q139⟩
                      · exact absurd rfl c140
                      · subst q139
                        have g := wb_t (c := (0 : Int32) = 0) rfl g
                        have g := Option.some.inj g
                        subst g
                        exact Or.inl ⟨h, rfl⟩
                  · have g := wb_t q127 g
                    unfold fX12_misread_J45 at g
                    unfold fX12_misread_J46 at g
                    obtain ⟨r141, e142, g⟩ := wb_b g
                    rcases rt12 rfl (by decide) e142 with ⟨c144, q143⟩ | ⟨c144, q143⟩
                    · exact absurd rfl c144
                    · subst q143
                      have g := wb_t (c := (0 : Int32) = 0) rfl g
                      have g := Option.some.inj g
                      subst g
                      exact Or.inl ⟨h, rfl⟩
                · have g := wb_t q123 g
                  unfold fX12_misread_J45 at g
                  unfold fX12_misread_J46 at g
                  obtain ⟨r145, e146, g⟩ := wb_b g
                  rcases rt12 rfl (by decide) e146 with ⟨c148, q147⟩ | ⟨c148, q147⟩
                  · exact absurd rfl c148
                  · subst q147
                    have g := wb_t (c := (0 : Int32) = 0) rfl g
                    have g := Option.some.inj g
                    subst g
                    exact Or.inl ⟨h, rfl⟩
              · subst q119
                unfold BW at c120
                have g := wb_t (c := (0 : Int32) = 0) rfl g
                have g := Option.some.inj g
                subst g
                exact Or.inl ⟨h, rfl⟩
            · exact absurd rfl c116
        · have h := wb_t q40 h
          unfold fX11_misread_J39 at h
          unfold fX11_misread_J40 at h
          rcases nd11 h with ⟨c149, h⟩ | ⟨c149, h⟩
          · have g := e3
            unfold fX12_misread at g
            obtain ⟨r150, e151, g⟩ := wb_b g
            rcases iw12 e151 with ⟨c153, q152⟩ | ⟨c153, q152⟩
            · subst q152
              unfold BW at c153
              have g := wb_f (c := (1 : Int32) = 0) (by decide) g
              obtain ⟨r154, e155, g⟩ := wb_b g
              rcases ck_within12 (0) (3) (by decide) (by decide) e155 with ⟨q156, c157⟩ | ⟨q156, c157⟩
              · have g := wb_f (by rw [q156]; decide) g
                obtain ⟨r158, e159, g⟩ := wb_b g
                rcases ck_within12 (0) (1000000) (by decide) (by decide) e159 with ⟨q160, c161⟩ | ⟨q160, c161⟩
                · have g := wb_f (by rw [q160]; decide) g
                  obtain ⟨r162, e163, g⟩ := wb_b g
                  rcases ck_within12 (0) (6) (by decide) (by decide) e163 with ⟨q164, c165⟩ | ⟨q164, c165⟩
                  · have g := wb_f (by rw [q164]; decide) g
                    unfold fX12_misread_J46 at g
                    obtain ⟨r166, e167, g⟩ := wb_b g
                    rcases rt12 rfl (by decide) e167 with ⟨c169, q168⟩ | ⟨c169, q168⟩
                    · subst q168
                      have g := wb_f (c := (1 : Int32) = 0) (by decide) g
                      exfalso
                      omega
                    · exact absurd c169 (show ¬ (1 : Int32) = 0 by decide)
                  · have g := wb_t q164 g
                    unfold fX12_misread_J45 at g
                    unfold fX12_misread_J46 at g
                    obtain ⟨r170, e171, g⟩ := wb_b g
                    rcases rt12 rfl (by decide) e171 with ⟨c173, q172⟩ | ⟨c173, q172⟩
                    · exact absurd rfl c173
                    · subst q172
                      have g := wb_t (c := (0 : Int32) = 0) rfl g
                      have g := Option.some.inj g
                      subst g
                      exact Or.inl ⟨h, rfl⟩
                · have g := wb_t q160 g
                  unfold fX12_misread_J45 at g
                  unfold fX12_misread_J46 at g
                  obtain ⟨r174, e175, g⟩ := wb_b g
                  rcases rt12 rfl (by decide) e175 with ⟨c177, q176⟩ | ⟨c177, q176⟩
                  · exact absurd rfl c177
                  · subst q176
                    have g := wb_t (c := (0 : Int32) = 0) rfl g
                    have g := Option.some.inj g
                    subst g
                    exact Or.inl ⟨h, rfl⟩
              · have g := wb_t q156 g
                unfold fX12_misread_J45 at g
                unfold fX12_misread_J46 at g
                obtain ⟨r178, e179, g⟩ := wb_b g
                rcases rt12 rfl (by decide) e179 with ⟨c181, q180⟩ | ⟨c181, q180⟩
                · exact absurd rfl c181
                · subst q180
                  have g := wb_t (c := (0 : Int32) = 0) rfl g
                  have g := Option.some.inj g
                  subst g
                  exact Or.inl ⟨h, rfl⟩
            · subst q152
              unfold BW at c153
              have g := wb_t (c := (0 : Int32) = 0) rfl g
              have g := Option.some.inj g
              subst g
              exact Or.inl ⟨h, rfl⟩
          · exact absurd rfl c149
      · cases z5
  exact fin_1n e1 key
theorem an_handed {N : Nat} (hN : 3000000000 ≤ N) {I0 I1 : Nat → Int32} {M0 M1 : Nat → Nat → Int32} {L1 : Int64} {x1 x2 x3 : Int32} {o : Nat → Int64} {r : Int32 × (Nat → Int32) × (Nat → Nat → Int32) × (Nat → Int64)} {s : Int32 × (Nat → Int32) × Int64 × (Nat → Nat → Int32)} (k0 : KX11 I0 M0) (k1 : KX12 I1 M1) (e1 : fL_handed N I0 M0 x1 x2 x3 o = some r) (e3 : fX12_handed N I1 L1 M1 x1 x2 x3 = some s) (hr : RR I0 M0 I1 M1) : s.2.1 0 = r.1 ∧ (r.1 = 0 → r.2.2.2 0 = s.1.toInt64) := by
  unfold fL_handed at e1
  have hr0 := hr.j0 0
  have u1 : (upd I1 0 0 1).toInt = (I1 1).toInt := rfl
  have ht := hr.2.2
  have er := hr.2.1
  have h91 := congrArg Int32.toInt ht.1
  have u2 : (((1 : Int32), upd I1 0 0, L1, M1).snd.fst 1).toInt = (I1 1).toInt := rfl
  have i9 := k0.i9
  have key : ∀ q, fX11_handed N I0 M0 x1 x2 x3 = some q → (q = .inl 1 ∧ s.2.1 0 = 1) ∨ ∃ a, q = .inr a ∧ s.2.1 0 = 0 ∧ a = s.1 := by
    intro q h
    unfold fX11_handed at h
    obtain ⟨r1, e2, h⟩ := wb_b h
    rcases ck_isBook e2 with ⟨q3, c4⟩ | ⟨q3, c4⟩
    · have h := wb_f (by rw [q3]; decide) h
      obtain ⟨r5, e6, h⟩ := wb_b h
      rcases ck_isBook e6 with ⟨q7, c8⟩ | ⟨q7, c8⟩
      · have h := wb_f (by rw [q7]; decide) h
        obtain ⟨r9, e10, h⟩ := wb_b h
        rcases ck_isBook e10 with ⟨q11, c12⟩ | ⟨q11, c12⟩
        · have h := wb_f (by rw [q11]; decide) h
          unfold fX11_handed_J26 at h
          rcases nd11 h with ⟨c13, h⟩ | ⟨c13, h⟩
          · exact absurd c13 (show ¬ (1 : Int32) = 0 by decide)
          · obtain ⟨a, ha, h⟩ := oki h
            have g := e3
            unfold fX12_handed at g
            obtain ⟨J14, eJ15, g⟩ := wb_v g
            subst eJ15
            obtain ⟨r16, e17, g⟩ := wb_b g
            rcases ck12_isBook rfl e17 with ⟨c19, q18⟩ | ⟨c19, q18⟩
            · subst q18
              have g := wb_f (c := (1 : Int32) = 0) (by decide) g
              obtain ⟨r20, e21, g⟩ := wb_b g
              rcases ck12_isBook rfl e21 with ⟨c23, q22⟩ | ⟨c23, q22⟩
              · subst q22
                have g := wb_f (c := (1 : Int32) = 0) (by decide) g
                obtain ⟨r24, e25, g⟩ := wb_b g
                rcases ck12_isBook rfl e25 with ⟨c27, q26⟩ | ⟨c27, q26⟩
                · subst q26
                  have g := wb_f (c := (1 : Int32) = 0) (by decide) g
                  obtain ⟨a2, f2, h⟩ := wb_b h
                  have h := Option.some.inj h
                  subst h
                  unfold fX1_howManyHanded at f2
                  obtain ⟨w1, w2⟩ := han_l er N N 0 0 f2 g
                  exact Or.inr ⟨_, ha, by rw [w2]; rfl, w1⟩
                · subst q26
                  have g := wb_t (c := (0 : Int32) = 0) rfl g
                  have g := Option.some.inj g
                  subst g
                  exfalso
                  omega
              · subst q22
                have g := wb_t (c := (0 : Int32) = 0) rfl g
                have g := Option.some.inj g
                subst g
                exfalso
                omega
            · subst q18
              have g := wb_t (c := (0 : Int32) = 0) rfl g
              have g := Option.some.inj g
              subst g
              exfalso
              omega
        · have h := wb_t q11 h
          unfold fX11_handed_J25 at h
          unfold fX11_handed_J26 at h
          rcases nd11 h with ⟨c28, h⟩ | ⟨c28, h⟩
          · have g := e3
            unfold fX12_handed at g
            obtain ⟨J29, eJ30, g⟩ := wb_v g
            subst eJ30
            obtain ⟨r31, e32, g⟩ := wb_b g
            rcases ck12_isBook rfl e32 with ⟨c34, q33⟩ | ⟨c34, q33⟩
            · subst q33
              have g := wb_f (c := (1 : Int32) = 0) (by decide) g
              obtain ⟨r35, e36, g⟩ := wb_b g
              rcases ck12_isBook rfl e36 with ⟨c38, q37⟩ | ⟨c38, q37⟩
              · subst q37
                have g := wb_f (c := (1 : Int32) = 0) (by decide) g
                obtain ⟨r39, e40, g⟩ := wb_b g
                rcases ck12_isBook rfl e40 with ⟨c42, q41⟩ | ⟨c42, q41⟩
                · subst q41
                  have g := wb_f (c := (1 : Int32) = 0) (by decide) g
                  exfalso
                  omega
                · subst q41
                  have g := wb_t (c := (0 : Int32) = 0) rfl g
                  have g := Option.some.inj g
                  subst g
                  exact Or.inl ⟨h, rfl⟩
              · subst q37
                have g := wb_t (c := (0 : Int32) = 0) rfl g
                have g := Option.some.inj g
                subst g
                exact Or.inl ⟨h, rfl⟩
            · subst q33
              have g := wb_t (c := (0 : Int32) = 0) rfl g
              have g := Option.some.inj g
              subst g
              exact Or.inl ⟨h, rfl⟩
          · exact absurd rfl c28
      · have h := wb_t q7 h
        unfold fX11_handed_J25 at h
        unfold fX11_handed_J26 at h
        rcases nd11 h with ⟨c43, h⟩ | ⟨c43, h⟩
        · have g := e3
          unfold fX12_handed at g
          obtain ⟨J44, eJ45, g⟩ := wb_v g
          subst eJ45
          obtain ⟨r46, e47, g⟩ := wb_b g
          rcases ck12_isBook rfl e47 with ⟨c49, q48⟩ | ⟨c49, q48⟩
          · subst q48
            have g := wb_f (c := (1 : Int32) = 0) (by decide) g
            obtain ⟨r50, e51, g⟩ := wb_b g
            rcases ck12_isBook rfl e51 with ⟨c53, q52⟩ | ⟨c53, q52⟩
            · subst q52
              have g := wb_f (c := (1 : Int32) = 0) (by decide) g
              obtain ⟨r54, e55, g⟩ := wb_b g
              rcases ck12_isBook rfl e55 with ⟨c57, q56⟩ | ⟨c57, q56⟩
              · subst q56
                have g := wb_f (c := (1 : Int32) = 0) (by decide) g
                exfalso
                omega
              · subst q56
                have g := wb_t (c := (0 : Int32) = 0) rfl g
                have g := Option.some.inj g
                subst g
                exact Or.inl ⟨h, rfl⟩
            · subst q52
              have g := wb_t (c := (0 : Int32) = 0) rfl g
              have g := Option.some.inj g
              subst g
              exact Or.inl ⟨h, rfl⟩
          · subst q48
            have g := wb_t (c := (0 : Int32) = 0) rfl g
            have g := Option.some.inj g
            subst g
            exact Or.inl ⟨h, rfl⟩
        · exact absurd rfl c43
    · have h := wb_t q3 h
      unfold fX11_handed_J25 at h
      unfold fX11_handed_J26 at h
      rcases nd11 h with ⟨c58, h⟩ | ⟨c58, h⟩
      · have g := e3
        unfold fX12_handed at g
        obtain ⟨J59, eJ60, g⟩ := wb_v g
        subst eJ60
        obtain ⟨r61, e62, g⟩ := wb_b g
        rcases ck12_isBook rfl e62 with ⟨c64, q63⟩ | ⟨c64, q63⟩
        · subst q63
          have g := wb_f (c := (1 : Int32) = 0) (by decide) g
          obtain ⟨r65, e66, g⟩ := wb_b g
          rcases ck12_isBook rfl e66 with ⟨c68, q67⟩ | ⟨c68, q67⟩
          · subst q67
            have g := wb_f (c := (1 : Int32) = 0) (by decide) g
            obtain ⟨r69, e70, g⟩ := wb_b g
            rcases ck12_isBook rfl e70 with ⟨c72, q71⟩ | ⟨c72, q71⟩
            · subst q71
              have g := wb_f (c := (1 : Int32) = 0) (by decide) g
              exfalso
              omega
            · subst q71
              have g := wb_t (c := (0 : Int32) = 0) rfl g
              have g := Option.some.inj g
              subst g
              exact Or.inl ⟨h, rfl⟩
          · subst q67
            have g := wb_t (c := (0 : Int32) = 0) rfl g
            have g := Option.some.inj g
            subst g
            exact Or.inl ⟨h, rfl⟩
        · subst q63
          have g := wb_t (c := (0 : Int32) = 0) rfl g
          have g := Option.some.inj g
          subst g
          exact Or.inl ⟨h, rfl⟩
      · exact absurd rfl c58
  exact fin_1n e1 key
theorem an_climb {N : Nat} (hN : 3000000000 ≤ N) {I0 I1 : Nat → Int32} {M0 M1 : Nat → Nat → Int32} {L1 : Int64} {x1 x2 : Int32} {o : Nat → Int64} {r : Int32 × (Nat → Int32) × (Nat → Nat → Int32) × (Nat → Int64)} {s : Int32 × (Nat → Int32) × Int64 × (Nat → Nat → Int32)} (k0 : KX11 I0 M0) (k1 : KX12 I1 M1) (e1 : fL_climb N I0 M0 x1 x2 o = some r) (e3 : fX12_climb N I1 L1 M1 x1 x2 = some s) (hr : RR I0 M0 I1 M1) : s.2.1 0 = r.1 ∧ (r.1 = 0 → r.2.2.2 0 = s.1.toInt64) := by
  unfold fL_climb at e1
  have hr0 := hr.j0 0
  have u1 : (upd I1 0 0 1).toInt = (I1 1).toInt := rfl
  have ht := hr.2.2
  have er := hr.2.1
  have h91 := congrArg Int32.toInt ht.1
  have u2 : (((1 : Int32), upd I1 0 0, L1, M1).snd.fst 1).toInt = (I1 1).toInt := rfl
  have i9 := k0.i9
  have key : ∀ q, fX11_climb N I0 M0 x1 x2 = some q → (q = .inl 1 ∧ s.2.1 0 = 1) ∨ ∃ a, q = .inr a ∧ s.2.1 0 = 0 ∧ a = s.1 := by
    intro q h
    unfold fX11_climb at h
    obtain ⟨r1, e2, h⟩ := wb_b h
    rcases ck_isClimate k0.i9 e2 with ⟨q3, c4⟩ | ⟨q3, c4⟩
    · have h := wb_f (by rw [q3]; decide) h
      obtain ⟨r5, e6, h⟩ := wb_b h
      rcases ck_within (0) (21599) (by decide) (by decide) e6 with ⟨q7, c8⟩ | ⟨q7, c8⟩
      · have h := wb_f (by rw [q7]; decide) h
        unfold fX11_climb_J24 at h
        rcases nd11 h with ⟨c9, h⟩ | ⟨c9, h⟩
        · exact absurd c9 (show ¬ (1 : Int32) = 0 by decide)
        · obtain ⟨a, ha, h⟩ := oki h
          have g := e3
          unfold fX12_climb at g
          obtain ⟨J10, eJ11, g⟩ := wb_v g
          subst eJ11
          obtain ⟨r12, e13, g⟩ := wb_b g
          rcases ck12_isClimate rfl e13 with ⟨c15, q14⟩ | ⟨c15, q14⟩
          · subst q14
            have g := wb_f (c := (1 : Int32) = 0) (by decide) g
            obtain ⟨a2, f2, h⟩ := wb_b h
            obtain ⟨b2, g2, g⟩ := wb_b g
            have h := Option.some.inj h
            have g := Option.some.inj g
            subst h
            subst g
            have hc := CL.of (c := x1.toInt.toNat) hr0.2.2 k1.er1 (show (x1.toInt.toNat : Int) < (I1 1).toInt by omega)
            exact Or.inr ⟨_, ha, rfl, (cb_eq (m := wb_sh M0 5) hc (by omega) (by omega) f2 g2).1⟩
          · subst q14
            have g := wb_t (c := (0 : Int32) = 0) rfl g
            have g := Option.some.inj g
            subst g
            exfalso
            omega
      · have h := wb_t q7 h
        unfold fX11_climb_J23 at h
        unfold fX11_climb_J24 at h
        rcases nd11 h with ⟨c16, h⟩ | ⟨c16, h⟩
        · have g := e3
          unfold fX12_climb at g
          obtain ⟨J17, eJ18, g⟩ := wb_v g
          subst eJ18
          obtain ⟨r19, e20, g⟩ := wb_b g
          rcases ck12_isClimate rfl e20 with ⟨c22, q21⟩ | ⟨c22, q21⟩
          · subst q21
            have g := wb_f (c := (1 : Int32) = 0) (by decide) g
            exfalso
            omega
          · subst q21
            have g := wb_t (c := (0 : Int32) = 0) rfl g
            have g := Option.some.inj g
            subst g
            exact Or.inl ⟨h, rfl⟩
        · exact absurd rfl c16
    · have h := wb_t q3 h
      unfold fX11_climb_J23 at h
      unfold fX11_climb_J24 at h
      rcases nd11 h with ⟨c23, h⟩ | ⟨c23, h⟩
      · have g := e3
        unfold fX12_climb at g
        obtain ⟨J24, eJ25, g⟩ := wb_v g
        subst eJ25
        obtain ⟨r26, e27, g⟩ := wb_b g
        rcases ck12_isClimate rfl e27 with ⟨c29, q28⟩ | ⟨c29, q28⟩
        · subst q28
          have g := wb_f (c := (1 : Int32) = 0) (by decide) g
          exfalso
          omega
        · subst q28
          have g := wb_t (c := (0 : Int32) = 0) rfl g
          have g := Option.some.inj g
          subst g
          exact Or.inl ⟨h, rfl⟩
      · exact absurd rfl c23
  exact fin_1n e1 key
theorem an_rise {N : Nat} (hN : 3000000000 ≤ N) {I0 I1 : Nat → Int32} {M0 M1 : Nat → Nat → Int32} {L1 : Int64} {x1 x2 x3 : Int32} {o : Nat → Int64} {r : Int32 × (Nat → Int32) × (Nat → Nat → Int32) × (Nat → Int64)} {s : Int32 × (Nat → Int32) × Int64 × (Nat → Nat → Int32)} (k0 : KX11 I0 M0) (k1 : KX12 I1 M1) (e1 : fL_rise N I0 M0 x1 x2 x3 o = some r) (e3 : fX12_rise N I1 L1 M1 x1 x2 x3 = some s) (hr : RR I0 M0 I1 M1) : s.2.1 0 = r.1 ∧ (r.1 = 0 → r.2.2.2 0 = s.1.toInt64) := by
  unfold fL_rise at e1
  have hr0 := hr.j0 0
  have u1 : (upd I1 0 0 1).toInt = (I1 1).toInt := rfl
  have ht := hr.2.2
  have er := hr.2.1
  have h91 := congrArg Int32.toInt ht.1
  have u2 : (((1 : Int32), upd I1 0 0, L1, M1).snd.fst 1).toInt = (I1 1).toInt := rfl
  have i9 := k0.i9
  have key : ∀ q, fX11_rise N I0 M0 x1 x2 x3 = some q → (q = .inl 1 ∧ s.2.1 0 = 1) ∨ ∃ a, q = .inr a ∧ s.2.1 0 = 0 ∧ a = s.1 := by
    intro q h
    unfold fX11_rise at h
    obtain ⟨r1, e2, h⟩ := wb_b h
    rcases ck_isClimate k0.i9 e2 with ⟨q3, c4⟩ | ⟨q3, c4⟩
    · have h := wb_f (by rw [q3]; decide) h
      obtain ⟨r5, e6, h⟩ := wb_b h
      rcases ck_within (0) (21599) (by decide) (by decide) e6 with ⟨q7, c8⟩ | ⟨q7, c8⟩
      · have h := wb_f (by rw [q7]; decide) h
        obtain ⟨r9, e10, h⟩ := wb_b h
        rcases ck_within (0) (359) (by decide) (by decide) e10 with ⟨q11, c12⟩ | ⟨q11, c12⟩
        · have h := wb_f (by rw [q11]; decide) h
          unfold fX11_rise_J35 at h
          rcases nd11 h with ⟨c13, h⟩ | ⟨c13, h⟩
          · exact absurd c13 (show ¬ (1 : Int32) = 0 by decide)
          · obtain ⟨a, ha, h⟩ := oki h
            have g := e3
            unfold fX12_rise at g
            obtain ⟨J14, eJ15, g⟩ := wb_v g
            subst eJ15
            obtain ⟨r16, e17, g⟩ := wb_b g
            rcases ck12_isClimate rfl e17 with ⟨c19, q18⟩ | ⟨c19, q18⟩
            · subst q18
              have g := wb_f (c := (1 : Int32) = 0) (by decide) g
              obtain ⟨r20, e21, g⟩ := wb_b g
              rcases ck_within12 (0) (359) (by decide) (by decide) e21 with ⟨q22, c23⟩ | ⟨q22, c23⟩
              · obtain ⟨r24, e25, g⟩ := wb_b g
                rcases rt12 rfl (by decide) e25 with ⟨c27, q26⟩ | ⟨c27, q26⟩
                · subst q26
                  have g := wb_f (c := (1 : Int32) = 0) (by decide) g
                  obtain ⟨a2, f2, h⟩ := wb_b h
                  obtain ⟨b2, g2, g⟩ := wb_b g
                  have h := Option.some.inj h
                  have g := Option.some.inj g
                  subst h
                  subst g
                  have hc := CL.of (c := x1.toInt.toNat) hr0.2.2 k1.er1 (show (x1.toInt.toNat : Int) < (I1 1).toInt by omega)
                  exact Or.inr ⟨_, ha, rfl, (ri_eq (m := wb_sh M0 5) hc (by omega) (by omega) (by omega) f2 g2).1⟩
                · exact absurd c27 (by rw [q22]; decide)
              · obtain ⟨r28, e29, g⟩ := wb_b g
                rcases rt12 rfl (by decide) e29 with ⟨c31, q30⟩ | ⟨c31, q30⟩
                · exact absurd q22 c31
                · subst q30
                  have g := wb_t (c := (0 : Int32) = 0) rfl g
                  have g := Option.some.inj g
                  subst g
                  exfalso
                  omega
            · subst q18
              have g := wb_t (c := (0 : Int32) = 0) rfl g
              have g := Option.some.inj g
              subst g
              exfalso
              omega
        · have h := wb_t q11 h
          unfold fX11_rise_J34 at h
          unfold fX11_rise_J35 at h
          rcases nd11 h with ⟨c32, h⟩ | ⟨c32, h⟩
          · have g := e3
            unfold fX12_rise at g
            obtain ⟨J33, eJ34, g⟩ := wb_v g
            subst eJ34
            obtain ⟨r35, e36, g⟩ := wb_b g
            rcases ck12_isClimate rfl e36 with ⟨c38, q37⟩ | ⟨c38, q37⟩
            · subst q37
              have g := wb_f (c := (1 : Int32) = 0) (by decide) g
              obtain ⟨r39, e40, g⟩ := wb_b g
              rcases ck_within12 (0) (359) (by decide) (by decide) e40 with ⟨q41, c42⟩ | ⟨q41, c42⟩
              · obtain ⟨r43, e44, g⟩ := wb_b g
                rcases rt12 rfl (by decide) e44 with ⟨c46, q45⟩ | ⟨c46, q45⟩
                · subst q45
                  have g := wb_f (c := (1 : Int32) = 0) (by decide) g
                  exfalso
                  omega
                · exact absurd c46 (by rw [q41]; decide)
              · obtain ⟨r47, e48, g⟩ := wb_b g
                rcases rt12 rfl (by decide) e48 with ⟨c50, q49⟩ | ⟨c50, q49⟩
                · exact absurd q41 c50
                · subst q49
                  have g := wb_t (c := (0 : Int32) = 0) rfl g
                  have g := Option.some.inj g
                  subst g
                  exact Or.inl ⟨h, rfl⟩
            · subst q37
              have g := wb_t (c := (0 : Int32) = 0) rfl g
              have g := Option.some.inj g
              subst g
              exact Or.inl ⟨h, rfl⟩
          · exact absurd rfl c32
      · have h := wb_t q7 h
        unfold fX11_rise_J34 at h
        unfold fX11_rise_J35 at h
        rcases nd11 h with ⟨c51, h⟩ | ⟨c51, h⟩
        · have g := e3
          unfold fX12_rise at g
          obtain ⟨J52, eJ53, g⟩ := wb_v g
          subst eJ53
          obtain ⟨r54, e55, g⟩ := wb_b g
          rcases ck12_isClimate rfl e55 with ⟨c57, q56⟩ | ⟨c57, q56⟩
          · subst q56
            have g := wb_f (c := (1 : Int32) = 0) (by decide) g
            obtain ⟨r58, e59, g⟩ := wb_b g
            rcases ck_within12 (0) (359) (by decide) (by decide) e59 with ⟨q60, c61⟩ | ⟨q60, c61⟩
            · obtain ⟨r62, e63, g⟩ := wb_b g
              rcases rt12 rfl (by decide) e63 with ⟨c65, q64⟩ | ⟨c65, q64⟩
              · subst q64
                have g := wb_f (c := (1 : Int32) = 0) (by decide) g
                exfalso
                omega
              · exact absurd c65 (by rw [q60]; decide)
            · obtain ⟨r66, e67, g⟩ := wb_b g
              rcases rt12 rfl (by decide) e67 with ⟨c69, q68⟩ | ⟨c69, q68⟩
              · exact absurd q60 c69
              · subst q68
                have g := wb_t (c := (0 : Int32) = 0) rfl g
                have g := Option.some.inj g
                subst g
                exact Or.inl ⟨h, rfl⟩
          · subst q56
            have g := wb_t (c := (0 : Int32) = 0) rfl g
            have g := Option.some.inj g
            subst g
            exact Or.inl ⟨h, rfl⟩
        · exact absurd rfl c51
    · have h := wb_t q3 h
      unfold fX11_rise_J34 at h
      unfold fX11_rise_J35 at h
      rcases nd11 h with ⟨c70, h⟩ | ⟨c70, h⟩
      · have g := e3
        unfold fX12_rise at g
        obtain ⟨J71, eJ72, g⟩ := wb_v g
        subst eJ72
        obtain ⟨r73, e74, g⟩ := wb_b g
        rcases ck12_isClimate rfl e74 with ⟨c76, q75⟩ | ⟨c76, q75⟩
        · subst q75
          have g := wb_f (c := (1 : Int32) = 0) (by decide) g
          obtain ⟨r77, e78, g⟩ := wb_b g
          rcases ck_within12 (0) (359) (by decide) (by decide) e78 with ⟨q79, c80⟩ | ⟨q79, c80⟩
          · obtain ⟨r81, e82, g⟩ := wb_b g
            rcases rt12 rfl (by decide) e82 with ⟨c84, q83⟩ | ⟨c84, q83⟩
            · subst q83
              have g := wb_f (c := (1 : Int32) = 0) (by decide) g
              exfalso
              omega
            · exact absurd c84 (by rw [q79]; decide)
          · obtain ⟨r85, e86, g⟩ := wb_b g
            rcases rt12 rfl (by decide) e86 with ⟨c88, q87⟩ | ⟨c88, q87⟩
            · exact absurd q79 c88
            · subst q87
              have g := wb_t (c := (0 : Int32) = 0) rfl g
              have g := Option.some.inj g
              subst g
              exact Or.inl ⟨h, rfl⟩
        · subst q75
          have g := wb_t (c := (0 : Int32) = 0) rfl g
          have g := Option.some.inj g
          subst g
          exact Or.inl ⟨h, rfl⟩
      · exact absurd rfl c70
  exact fin_1n e1 key
theorem an_middle {N : Nat} (hN : 3000000000 ≤ N) {I0 I1 : Nat → Int32} {M0 M1 : Nat → Nat → Int32} {L1 : Int64} {x1 x2 : Int32} {o : Nat → Int64} {r : Int32 × (Nat → Int32) × (Nat → Nat → Int32) × (Nat → Int64)} {s : Int32 × (Nat → Int32) × Int64 × (Nat → Nat → Int32)} (k0 : KX11 I0 M0) (k1 : KX12 I1 M1) (e1 : fL_middle N I0 M0 x1 x2 o = some r) (e3 : fX12_middle N I1 L1 M1 x1 x2 = some s) (hr : RR I0 M0 I1 M1) : s.2.1 0 = r.1 ∧ (r.1 = 0 → r.2.2.2 0 = s.1.toInt64) := by
  unfold fL_middle at e1
  have hr0 := hr.j0 0
  have u1 : (upd I1 0 0 1).toInt = (I1 1).toInt := rfl
  have ht := hr.2.2
  have er := hr.2.1
  have h91 := congrArg Int32.toInt ht.1
  have u2 : (((1 : Int32), upd I1 0 0, L1, M1).snd.fst 1).toInt = (I1 1).toInt := rfl
  have i9 := k0.i9
  have key : ∀ q, fX11_middle N I0 M0 x1 x2 = some q → (q = .inl 1 ∧ s.2.1 0 = 1) ∨ ∃ a, q = .inr a ∧ s.2.1 0 = 0 ∧ a = s.1 := by
    intro q h
    unfold fX11_middle at h
    obtain ⟨r1, e2, h⟩ := wb_b h
    rcases ck_isClimate k0.i9 e2 with ⟨q3, c4⟩ | ⟨q3, c4⟩
    · have h := wb_f (by rw [q3]; decide) h
      obtain ⟨r5, e6, h⟩ := wb_b h
      rcases ck_within (0) (21599) (by decide) (by decide) e6 with ⟨q7, c8⟩ | ⟨q7, c8⟩
      · have h := wb_f (by rw [q7]; decide) h
        unfold fX11_middle_J24 at h
        rcases nd11 h with ⟨c9, h⟩ | ⟨c9, h⟩
        · exact absurd c9 (show ¬ (1 : Int32) = 0 by decide)
        · obtain ⟨a, ha, h⟩ := oki h
          have g := e3
          unfold fX12_middle at g
          obtain ⟨J10, eJ11, g⟩ := wb_v g
          subst eJ11
          obtain ⟨r12, e13, g⟩ := wb_b g
          rcases ck12_isClimate rfl e13 with ⟨c15, q14⟩ | ⟨c15, q14⟩
          · subst q14
            have g := wb_f (c := (1 : Int32) = 0) (by decide) g
            obtain ⟨a2, f2, h⟩ := wb_b h
            obtain ⟨b2, g2, g⟩ := wb_b g
            have h := Option.some.inj h
            have g := Option.some.inj g
            subst h
            subst g
            have hc := CL.of (c := x1.toInt.toNat) hr0.2.2 k1.er1 (show (x1.toInt.toNat : Int) < (I1 1).toInt by omega)
            have hc0 := CL.of (c := 0) hr0.2.2 k1.er1 (show ((0 : Nat) : Int) < (I1 1).toInt by omega)
            exact Or.inr ⟨_, ha, rfl, (mi_eq (m := wb_sh M0 5) hc hc0 (by omega) (by omega) f2 g2).1⟩
          · subst q14
            have g := wb_t (c := (0 : Int32) = 0) rfl g
            have g := Option.some.inj g
            subst g
            exfalso
            omega
      · have h := wb_t q7 h
        unfold fX11_middle_J23 at h
        unfold fX11_middle_J24 at h
        rcases nd11 h with ⟨c16, h⟩ | ⟨c16, h⟩
        · have g := e3
          unfold fX12_middle at g
          obtain ⟨J17, eJ18, g⟩ := wb_v g
          subst eJ18
          obtain ⟨r19, e20, g⟩ := wb_b g
          rcases ck12_isClimate rfl e20 with ⟨c22, q21⟩ | ⟨c22, q21⟩
          · subst q21
            have g := wb_f (c := (1 : Int32) = 0) (by decide) g
            exfalso
            omega
          · subst q21
            have g := wb_t (c := (0 : Int32) = 0) rfl g
            have g := Option.some.inj g
            subst g
            exact Or.inl ⟨h, rfl⟩
        · exact absurd rfl c16
    · have h := wb_t q3 h
      unfold fX11_middle_J23 at h
      unfold fX11_middle_J24 at h
      rcases nd11 h with ⟨c23, h⟩ | ⟨c23, h⟩
      · have g := e3
        unfold fX12_middle at g
        obtain ⟨J24, eJ25, g⟩ := wb_v g
        subst eJ25
        obtain ⟨r26, e27, g⟩ := wb_b g
        rcases ck12_isClimate rfl e27 with ⟨c29, q28⟩ | ⟨c29, q28⟩
        · subst q28
          have g := wb_f (c := (1 : Int32) = 0) (by decide) g
          exfalso
          omega
        · subst q28
          have g := wb_t (c := (0 : Int32) = 0) rfl g
          have g := Option.some.inj g
          subst g
          exact Or.inl ⟨h, rfl⟩
      · exact absurd rfl c23
  exact fin_1n e1 key
theorem an_price {N : Nat} (hN : 3000000000 ≤ N) {I0 I1 : Nat → Int32} {M0 M1 : Nat → Nat → Int32} {L1 : Int64} {x1 x2 : Int32} {o : Nat → Int64} {r : Int32 × (Nat → Int32) × (Nat → Nat → Int32) × (Nat → Int64)} {s : Int32 × (Nat → Int32) × Int64 × (Nat → Nat → Int32)} (k0 : KX11 I0 M0) (k1 : KX12 I1 M1) (e1 : fL_price N I0 M0 x1 x2 o = some r) (e3 : fX12_price N I1 L1 M1 x1 x2 = some s) (hr : RR I0 M0 I1 M1) : s.2.1 0 = r.1 ∧ (r.1 = 0 → r.2.2.2 0 = s.1.toInt64) := by
  unfold fL_price at e1
  have hr0 := hr.j0 0
  have u1 : (upd I1 0 0 1).toInt = (I1 1).toInt := rfl
  have ht := hr.2.2
  have er := hr.2.1
  have h91 := congrArg Int32.toInt ht.1
  have u2 : (((1 : Int32), upd I1 0 0, L1, M1).snd.fst 1).toInt = (I1 1).toInt := rfl
  have i9 := k0.i9
  have key : ∀ q, fX11_price N I0 M0 x1 x2 = some q → (q = .inl 1 ∧ s.2.1 0 = 1) ∨ ∃ a, q = .inr a ∧ s.2.1 0 = 0 ∧ a = s.1 := by
    intro q h
    unfold fX11_price at h
    obtain ⟨r1, e2, h⟩ := wb_b h
    rcases ck_isBook e2 with ⟨q3, c4⟩ | ⟨q3, c4⟩
    · have h := wb_f (by rw [q3]; decide) h
      obtain ⟨r5, e6, h⟩ := wb_b h
      rcases ck_isBook e6 with ⟨q7, c8⟩ | ⟨q7, c8⟩
      · have h := wb_f (by rw [q7]; decide) h
        unfold fX11_price_J19 at h
        rcases nd11 h with ⟨c9, h⟩ | ⟨c9, h⟩
        · exact absurd c9 (show ¬ (1 : Int32) = 0 by decide)
        · obtain ⟨a, ha, h⟩ := oki h
          have g := e3
          unfold fX12_price at g
          obtain ⟨J10, eJ11, g⟩ := wb_v g
          subst eJ11
          obtain ⟨r12, e13, g⟩ := wb_b g
          rcases ck12_isBook rfl e13 with ⟨c15, q14⟩ | ⟨c15, q14⟩
          · subst q14
            have g := wb_f (c := (1 : Int32) = 0) (by decide) g
            obtain ⟨r16, e17, g⟩ := wb_b g
            rcases ck12_isBook rfl e17 with ⟨c19, q18⟩ | ⟨c19, q18⟩
            · subst q18
              have g := wb_f (c := (1 : Int32) = 0) (by decide) g
              obtain ⟨a2, f2, h⟩ := wb_b h
              obtain ⟨b2, g2, g⟩ := wb_b g
              have h := Option.some.inj h
              have g := Option.some.inj g
              subst h
              subst g
              exact Or.inr ⟨_, ha, rfl, lk_fX10_priceOf (hm := wb_sh M0 6) hr0.2.2 er k0.m13 rfl f2 g2⟩
            · subst q18
              have g := wb_t (c := (0 : Int32) = 0) rfl g
              have g := Option.some.inj g
              subst g
              exfalso
              omega
          · subst q14
            have g := wb_t (c := (0 : Int32) = 0) rfl g
            have g := Option.some.inj g
            subst g
            exfalso
            omega
      · have h := wb_t q7 h
        unfold fX11_price_J18 at h
        unfold fX11_price_J19 at h
        rcases nd11 h with ⟨c20, h⟩ | ⟨c20, h⟩
        · have g := e3
          unfold fX12_price at g
          obtain ⟨J21, eJ22, g⟩ := wb_v g
          subst eJ22
          obtain ⟨r23, e24, g⟩ := wb_b g
          rcases ck12_isBook rfl e24 with ⟨c26, q25⟩ | ⟨c26, q25⟩
          · subst q25
            have g := wb_f (c := (1 : Int32) = 0) (by decide) g
            obtain ⟨r27, e28, g⟩ := wb_b g
            rcases ck12_isBook rfl e28 with ⟨c30, q29⟩ | ⟨c30, q29⟩
            · subst q29
              have g := wb_f (c := (1 : Int32) = 0) (by decide) g
              exfalso
              omega
            · subst q29
              have g := wb_t (c := (0 : Int32) = 0) rfl g
              have g := Option.some.inj g
              subst g
              exact Or.inl ⟨h, rfl⟩
          · subst q25
            have g := wb_t (c := (0 : Int32) = 0) rfl g
            have g := Option.some.inj g
            subst g
            exact Or.inl ⟨h, rfl⟩
        · exact absurd rfl c20
    · have h := wb_t q3 h
      unfold fX11_price_J18 at h
      unfold fX11_price_J19 at h
      rcases nd11 h with ⟨c31, h⟩ | ⟨c31, h⟩
      · have g := e3
        unfold fX12_price at g
        obtain ⟨J32, eJ33, g⟩ := wb_v g
        subst eJ33
        obtain ⟨r34, e35, g⟩ := wb_b g
        rcases ck12_isBook rfl e35 with ⟨c37, q36⟩ | ⟨c37, q36⟩
        · subst q36
          have g := wb_f (c := (1 : Int32) = 0) (by decide) g
          obtain ⟨r38, e39, g⟩ := wb_b g
          rcases ck12_isBook rfl e39 with ⟨c41, q40⟩ | ⟨c41, q40⟩
          · subst q40
            have g := wb_f (c := (1 : Int32) = 0) (by decide) g
            exfalso
            omega
          · subst q40
            have g := wb_t (c := (0 : Int32) = 0) rfl g
            have g := Option.some.inj g
            subst g
            exact Or.inl ⟨h, rfl⟩
        · subst q36
          have g := wb_t (c := (0 : Int32) = 0) rfl g
          have g := Option.some.inj g
          subst g
          exact Or.inl ⟨h, rfl⟩
      · exact absurd rfl c31
  exact fin_1n e1 key

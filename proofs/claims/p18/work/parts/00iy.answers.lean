theorem an_houseOf {N : Nat} (hN : 3000000000 ≤ N) {I0 I1 : Nat → Int32} {M0 M1 : Nat → Nat → Int32} {L1 : Int64} {x1 x2 x3 x4 : Int32} {o : Nat → Int64} {r : Int32 × (Nat → Int32) × (Nat → Nat → Int32) × (Nat → Int64)} {s : Int32 × (Nat → Int32) × Int64 × (Nat → Nat → Int32)} (k0 : KX11 I0 M0) (k1 : KX12 I1 M1) (e1 : fL_houseOf N I0 M0 x1 x2 x3 x4 o = some r) (e3 : fX12_houseOf N I1 L1 M1 x1 x2 x3 x4 = some s) (hr : RR I0 M0 I1 M1) : s.2.1 0 = r.1 ∧ (r.1 = 0 → r.2.2.2 0 = s.1.toInt64) := by
  unfold fL_houseOf at e1
  have hr0 := hr.j0 0
  have u1 : (upd I1 0 0 1).toInt = (I1 1).toInt := rfl
  have ht := hr.2.2
  have er := hr.2.1
  have h91 := congrArg Int32.toInt ht.1
  have u2 : (((1 : Int32), upd I1 0 0, L1, M1).snd.fst 1).toInt = (I1 1).toInt := rfl
  have i9 := k0.i9
  have key : ∀ q, fX11_houseOf N I0 M0 x1 x2 x3 x4 = some q → (q = .inl 1 ∧ s.2.1 0 = 1) ∨ ∃ a, q = .inr a ∧ s.2.1 0 = 0 ∧ a = s.1 := by
    intro q h
    unfold fX11_houseOf at h
    obtain ⟨r1, e2, h⟩ := wb_b h
    rcases ck_within (0) (359) (by decide) (by decide) e2 with ⟨q3, c4⟩ | ⟨q3, c4⟩
    · have h := wb_f (by rw [q3]; decide) h
      obtain ⟨r5, e6, h⟩ := wb_b h
      rcases ck_isWay k0.i9 e6 with ⟨q7, c8⟩ | ⟨q7, c8⟩
      · have h := wb_f (by rw [q7]; decide) h
        obtain ⟨r9, e10, h⟩ := wb_b h
        rcases ck_within (1) (12) (by decide) (by decide) e10 with ⟨q11, c12⟩ | ⟨q11, c12⟩
        · have h := wb_f (by rw [q11]; decide) h
          unfold fX11_houseOf_J36 at h
          rcases nd11 h with ⟨c13, h⟩ | ⟨c13, h⟩
          · exact absurd c13 (show ¬ (1 : Int32) = 0 by decide)
          · obtain ⟨a, ha, h⟩ := oki h
            have g := e3
            unfold fX12_houseOf at g
            obtain ⟨J14, eJ15, g⟩ := wb_v g
            subst eJ15
            obtain ⟨r16, e17, g⟩ := wb_b g
            rcases ck_within12 (0) (359) (by decide) (by decide) e17 with ⟨q18, c19⟩ | ⟨q18, c19⟩
            · have g := wb_f (by rw [q18]; decide) g
              obtain ⟨r20, e21, g⟩ := wb_b g
              rcases ck_within12 (1) (12) (by decide) (by decide) e21 with ⟨q22, c23⟩ | ⟨q22, c23⟩
              · have g := wb_f (by rw [q22]; decide) g
                unfold fX12_houseOf_J33 at g
                obtain ⟨r24, e25, g⟩ := wb_b g
                rcases rt12 rfl (by decide) e25 with ⟨c27, q26⟩ | ⟨c27, q26⟩
                · subst q26
                  have g := wb_f (c := (1 : Int32) = 0) (by decide) g
                  obtain ⟨r28, e29, g⟩ := wb_b g
                  rcases ck12_isWay rfl e29 with ⟨c31, q30⟩ | ⟨c31, q30⟩
                  · subst q30
                    have g := wb_f (c := (1 : Int32) = 0) (by decide) g
                    obtain ⟨a2, f2, h⟩ := wb_b h
                    obtain ⟨b2, g2, g⟩ := wb_b g
                    have h := Option.some.inj h
                    have g := Option.some.inj g
                    subst h
                    subst g
                    refine Or.inr ⟨_, ha, rfl, ho_eq (m := wb_sh M0 5) (fun w0 w1 => ?_) (by omega) (by omega) f2 g2⟩
                    have w0 : ¬ _ := fun z => w0 ((eq32 rfl ni0).mpr z)
                    have w1 : ¬ _ := fun z => w1 ((eq32 rfl ni1).mpr z)
                    exact ⟨x3.toInt.toNat, CL.of (c := x3.toInt.toNat) hr0.2.2 k1.er1 (show (x3.toInt.toNat : Int) < (I1 1).toInt by omega), CL.of (c := 0) hr0.2.2 k1.er1 (show ((0 : Nat) : Int) < (I1 1).toInt by omega), by omega⟩
                  · subst q30
                    have g := wb_t (c := (0 : Int32) = 0) rfl g
                    have g := Option.some.inj g
                    subst g
                    exfalso
                    omega
                · exact absurd c27 (show ¬ (1 : Int32) = 0 by decide)
              · have g := wb_t q22 g
                unfold fX12_houseOf_J32 at g
                unfold fX12_houseOf_J33 at g
                obtain ⟨r32, e33, g⟩ := wb_b g
                rcases rt12 rfl (by decide) e33 with ⟨c35, q34⟩ | ⟨c35, q34⟩
                · exact absurd rfl c35
                · subst q34
                  have g := wb_t (c := (0 : Int32) = 0) rfl g
                  have g := Option.some.inj g
                  subst g
                  exfalso
                  omega
            · have g := wb_t q18 g
              unfold fX12_houseOf_J32 at g
              unfold fX12_houseOf_J33 at g
              obtain ⟨r36, e37, g⟩ := wb_b g
              rcases rt12 rfl (by decide) e37 with ⟨c39, q38⟩ | ⟨c39, q38⟩
              · exact absurd rfl c39
              · subst q38
                have g := wb_t (c := (0 : Int32) = 0) rfl g
                have g := Option.some.inj g
                subst g
                exfalso
                omega
        · have h := wb_t q11 h
          unfold fX11_houseOf_J35 at h
          unfold fX11_houseOf_J36 at h
          rcases nd11 h with ⟨c40, h⟩ | ⟨c40, h⟩
          · have g := e3
            unfold fX12_houseOf at g
            obtain ⟨J41, eJ42, g⟩ := wb_v g
            subst eJ42
            obtain ⟨r43, e44, g⟩ := wb_b g
            rcases ck_within12 (0) (359) (by decide) (by decide) e44 with ⟨q45, c46⟩ | ⟨q45, c46⟩
            · have g := wb_f (by rw [q45]; decide) g
              obtain ⟨r47, e48, g⟩ := wb_b g
              rcases ck_within12 (1) (12) (by decide) (by decide) e48 with ⟨q49, c50⟩ | ⟨q49, c50⟩
              · have g := wb_f (by rw [q49]; decide) g
                unfold fX12_houseOf_J33 at g
                obtain ⟨r51, e52, g⟩ := wb_b g
                rcases rt12 rfl (by decide) e52 with ⟨c54, q53⟩ | ⟨c54, q53⟩
                · subst q53
                  have g := wb_f (c := (1 : Int32) = 0) (by decide) g
                  obtain ⟨r55, e56, g⟩ := wb_b g
                  rcases ck12_isWay rfl e56 with ⟨c58, q57⟩ | ⟨c58, q57⟩
                  · subst q57
                    have g := wb_f (c := (1 : Int32) = 0) (by decide) g
                    exfalso
                    omega
                  · subst q57
                    have g := wb_t (c := (0 : Int32) = 0) rfl g
                    have g := Option.some.inj g
                    subst g
                    exact Or.inl ⟨h, rfl⟩
                · exact absurd c54 (show ¬ (1 : Int32) = 0 by decide)
              · have g := wb_t q49 g
                unfold fX12_houseOf_J32 at g
                unfold fX12_houseOf_J33 at g
                obtain ⟨r59, e60, g⟩ := wb_b g
                rcases rt12 rfl (by decide) e60 with ⟨c62, q61⟩ | ⟨c62, q61⟩
                · exact absurd rfl c62
                · subst q61
                  have g := wb_t (c := (0 : Int32) = 0) rfl g
                  have g := Option.some.inj g
                  subst g
                  exact Or.inl ⟨h, rfl⟩
            · have g := wb_t q45 g
              unfold fX12_houseOf_J32 at g
              unfold fX12_houseOf_J33 at g
              obtain ⟨r63, e64, g⟩ := wb_b g
              rcases rt12 rfl (by decide) e64 with ⟨c66, q65⟩ | ⟨c66, q65⟩
              · exact absurd rfl c66
              · subst q65
                have g := wb_t (c := (0 : Int32) = 0) rfl g
                have g := Option.some.inj g
                subst g
                exact Or.inl ⟨h, rfl⟩
          · exact absurd rfl c40
      · have h := wb_t q7 h
        unfold fX11_houseOf_J35 at h
        unfold fX11_houseOf_J36 at h
        rcases nd11 h with ⟨c67, h⟩ | ⟨c67, h⟩
        · have g := e3
          unfold fX12_houseOf at g
          obtain ⟨J68, eJ69, g⟩ := wb_v g
          subst eJ69
          obtain ⟨r70, e71, g⟩ := wb_b g
          rcases ck_within12 (0) (359) (by decide) (by decide) e71 with ⟨q72, c73⟩ | ⟨q72, c73⟩
          · have g := wb_f (by rw [q72]; decide) g
            obtain ⟨r74, e75, g⟩ := wb_b g
            rcases ck_within12 (1) (12) (by decide) (by decide) e75 with ⟨q76, c77⟩ | ⟨q76, c77⟩
            · have g := wb_f (by rw [q76]; decide) g
              unfold fX12_houseOf_J33 at g
              obtain ⟨r78, e79, g⟩ := wb_b g
              rcases rt12 rfl (by decide) e79 with ⟨c81, q80⟩ | ⟨c81, q80⟩
              · subst q80
                have g := wb_f (c := (1 : Int32) = 0) (by decide) g
                obtain ⟨r82, e83, g⟩ := wb_b g
                rcases ck12_isWay rfl e83 with ⟨c85, q84⟩ | ⟨c85, q84⟩
                · subst q84
                  have g := wb_f (c := (1 : Int32) = 0) (by decide) g
                  exfalso
                  omega
                · subst q84
                  have g := wb_t (c := (0 : Int32) = 0) rfl g
                  have g := Option.some.inj g
                  subst g
                  exact Or.inl ⟨h, rfl⟩
              · exact absurd c81 (show ¬ (1 : Int32) = 0 by decide)
            · have g := wb_t q76 g
              unfold fX12_houseOf_J32 at g
              unfold fX12_houseOf_J33 at g
              obtain ⟨r86, e87, g⟩ := wb_b g
              rcases rt12 rfl (by decide) e87 with ⟨c89, q88⟩ | ⟨c89, q88⟩
              · exact absurd rfl c89
              · subst q88
                have g := wb_t (c := (0 : Int32) = 0) rfl g
                have g := Option.some.inj g
                subst g
                exact Or.inl ⟨h, rfl⟩
          · have g := wb_t q72 g
            unfold fX12_houseOf_J32 at g
            unfold fX12_houseOf_J33 at g
            obtain ⟨r90, e91, g⟩ := wb_b g
            rcases rt12 rfl (by decide) e91 with ⟨c93, q92⟩ | ⟨c93, q92⟩
            · exact absurd rfl c93
            · subst q92
              have g := wb_t (c := (0 : Int32) = 0) rfl g
              have g := Option.some.inj g
              subst g
              exact Or.inl ⟨h, rfl⟩
        · exact absurd rfl c67
    · have h := wb_t q3 h
      unfold fX11_houseOf_J35 at h
      unfold fX11_houseOf_J36 at h
      rcases nd11 h with ⟨c94, h⟩ | ⟨c94, h⟩
      · have g := e3
        unfold fX12_houseOf at g
        obtain ⟨J95, eJ96, g⟩ := wb_v g
        subst eJ96
        obtain ⟨r97, e98, g⟩ := wb_b g
        rcases ck_within12 (0) (359) (by decide) (by decide) e98 with ⟨q99, c100⟩ | ⟨q99, c100⟩
        · have g := wb_f (by rw [q99]; decide) g
          obtain ⟨r101, e102, g⟩ := wb_b g
          rcases ck_within12 (1) (12) (by decide) (by decide) e102 with ⟨q103, c104⟩ | ⟨q103, c104⟩
          · have g := wb_f (by rw [q103]; decide) g
            unfold fX12_houseOf_J33 at g
            obtain ⟨r105, e106, g⟩ := wb_b g
            rcases rt12 rfl (by decide) e106 with ⟨c108, q107⟩ | ⟨c108, q107⟩
            · subst q107
              have g := wb_f (c := (1 : Int32) = 0) (by decide) g
              obtain ⟨r109, e110, g⟩ := wb_b g
              rcases ck12_isWay rfl e110 with ⟨c112, q111⟩ | ⟨c112, q111⟩
              · subst q111
                have g := wb_f (c := (1 : Int32) = 0) (by decide) g
                exfalso
                omega
              · subst q111
                have g := wb_t (c := (0 : Int32) = 0) rfl g
                have g := Option.some.inj g
                subst g
                exact Or.inl ⟨h, rfl⟩
            · exact absurd c108 (show ¬ (1 : Int32) = 0 by decide)
          · have g := wb_t q103 g
            unfold fX12_houseOf_J32 at g
            unfold fX12_houseOf_J33 at g
            obtain ⟨r113, e114, g⟩ := wb_b g
            rcases rt12 rfl (by decide) e114 with ⟨c116, q115⟩ | ⟨c116, q115⟩
            · exact absurd rfl c116
            · subst q115
              have g := wb_t (c := (0 : Int32) = 0) rfl g
              have g := Option.some.inj g
              subst g
              exact Or.inl ⟨h, rfl⟩
        · have g := wb_t q99 g
          unfold fX12_houseOf_J32 at g
          unfold fX12_houseOf_J33 at g
          obtain ⟨r117, e118, g⟩ := wb_b g
          rcases rt12 rfl (by decide) e118 with ⟨c120, q119⟩ | ⟨c120, q119⟩
          · exact absurd rfl c120
          · subst q119
            have g := wb_t (c := (0 : Int32) = 0) rfl g
            have g := Option.some.inj g
            subst g
            exact Or.inl ⟨h, rfl⟩
      · exact absurd rfl c94
  exact fin_1n e1 key

theorem an_hour {N : Nat} (hN : 3000000000 ≤ N) {I0 I1 : Nat → Int32} {M0 M1 : Nat → Nat → Int32} {L1 : Int64} {x1 x2 x3 : Int32} {o : Nat → Int64} {r : Int32 × (Nat → Int32) × (Nat → Nat → Int32) × (Nat → Int64)} {s : Int32 × (Nat → Int32) × Int64 × (Nat → Nat → Int32)} (k0 : KX11 I0 M0) (k1 : KX12 I1 M1) (e1 : fL_hour N I0 M0 x1 x2 x3 o = some r) (e3 : fX12_hour N I1 L1 M1 x1 x2 x3 = some s) (hr : RR I0 M0 I1 M1) : s.2.1 0 = r.1 ∧ (r.1 = 0 → r.2.2.2 0 = s.1.toInt64) := by
  unfold fL_hour at e1
  have hr0 := hr.j0 0
  have u1 : (upd I1 0 0 1).toInt = (I1 1).toInt := rfl
  have ht := hr.2.2
  have er := hr.2.1
  have h91 := congrArg Int32.toInt ht.1
  have u2 : (((1 : Int32), upd I1 0 0, L1, M1).snd.fst 1).toInt = (I1 1).toInt := rfl
  have i9 := k0.i9
  have key : ∀ q, fX11_hour N I0 M0 x1 x2 x3 = some q → (q = .inl 1 ∧ s.2.1 0 = 1) ∨ ∃ a, q = .inr a ∧ s.2.1 0 = 0 ∧ a = s.1 := by
    intro q h
    unfold fX11_hour at h
    rcases xbi h with ⟨k2, h13, h⟩ | ⟨n4, h13, h⟩
    · rcases nb11 h13 with ⟨-, z6⟩ | ⟨cb5, z6⟩
      · cases z6
      · have z6 := Sum.inl.inj z6
        rw [z6] at h
        unfold BW at cb5
        have g := e3
        unfold fX12_hour at g
        obtain ⟨r7, e8, g⟩ := wb_b g
        rcases iw12 e8 with ⟨c10, q9⟩ | ⟨c10, q9⟩
        · subst q9
          unfold BW at c10
          have g := wb_f (c := (1 : Int32) = 0) (by decide) g
          exfalso
          omega
        · subst q9
          unfold BW at c10
          have g := wb_t (c := (0 : Int32) = 0) rfl g
          have g := Option.some.inj g
          subst g
          exact Or.inl ⟨h, rfl⟩
    · rcases nb11 h13 with ⟨cb5, z6⟩ | ⟨-, z6⟩
      · have z6 := Sum.inr.inj z6
        rw [z6] at h
        unfold BW at cb5
        have g := e3
        unfold fX12_hour at g
        obtain ⟨r11, e12, g⟩ := wb_b g
        rcases iw12 e12 with ⟨c14, q13⟩ | ⟨c14, q13⟩
        · subst q13
          unfold BW at c14
          have g := wb_f (c := (1 : Int32) = 0) (by decide) g
          obtain ⟨a0, f0, h⟩ := wb_b h
          obtain ⟨a7, f7, h⟩ := wb_b h
          obtain ⟨v8, ev8, g⟩ := wb_v g
          rw [ev8] at g
          clear ev8 v8
          obtain ⟨b0, g0, g⟩ := wb_b g
          have e0 := at_eq er f0 g0
          rw [← e0] at g g0
          rcases ifr h with ⟨k, h⟩ | ⟨k, h⟩
          · have g := wb_t k g
            exact hrN rfl h g
          · have g := wb_f k g
            obtain ⟨b7, g7, g⟩ := wb_b g
            have e7 := at_eq er f7 g7
            rw [← e7] at g g7
            rcases ifr h with ⟨k2, h⟩ | ⟨k2, h⟩
            · have g := wb_t k2 g
              exact hrN rfl h g
            · have g := wb_f k2 g
              exact hrY (J := upd I1 0 0) hr0.2.2.1 (show (I1 1).toInt ≤ 7 by omega) (show 0 ≤ (I1 1).toInt by omega) (fun c hc => CL.of hr0.2.2 k1.er1 hc) ((dg_rg k1.een k1.m7 (by omega) (by omega) (by decide) g0).2 k) g0 g7 rfl h g
        · subst q13
          unfold BW at c14
          have g := wb_t (c := (0 : Int32) = 0) rfl g
          have g := Option.some.inj g
          subst g
          exfalso
          omega
      · cases z6
  exact fin_1n e1 key

/-! SEARCH, image, LEAVES, outcomes: relations and answers -/
noncomputable def QSR (I : Nat → Int32) (M : Nat → Nat → Int32) (J : Nat → Int32) (K : Nat → Nat → Int32) : Prop := I 27 = J 16 ∧ (¬ I 27 = 0 → QS (wb_sh I 27) (M 18) (K 18))
noncomputable def QIR (I : Nat → Int32) (M : Nat → Nat → Int32) (J : Nat → Int32) (K : Nat → Nat → Int32) : Prop := I 34 = J 17 ∧ (¬ I 34 = 0 → QS (wb_sh I 34) (M 19) (K 19))
noncomputable def QL (I : Nat → Int32) (M : Nat → Nat → Int32) (J : Nat → Int32) (K : Nat → Nat → Int32) : Prop := ∀ b : Nat, b < 6 → M 24 b = K 27 b ∧ ∀ i : Nat, (i : Int) < (K 27 b).toInt → M 23 (20 * b + i) = K 28 (20 * b + i)
noncomputable def QO (I : Nat → Int32) (M : Nat → Nat → Int32) (J : Nat → Int32) (K : Nat → Nat → Int32) : Prop := OR M K
theorem QS.cg {i i' m m' k : Nat → Int32} (h : QS i m k) (a : ∀ j, j < 7 → i' j = i j) (b : m' 0 = m 0) : QS i' m' k := by
  unfold QS at h ⊢
  rw [a 1 (by omega), a 2 (by omega), a 3 (by omega), a 4 (by omega), a 5 (by omega), a 6 (by omega), b]
  exact h
theorem QSR.cg {I I' J J' : Nat → Int32} {M M' K K' : Nat → Nat → Int32} (h : QSR I M J K) (a : ∀ j, j < 34 → 27 ≤ j → I' j = I j) (c : M' 18 = M 18) (d : J' 16 = J 16) (e : K' 18 = K 18) : QSR I' M' J' K' := by
  unfold QSR at h ⊢
  rw [a 27 (by omega) (by omega), c, d, e]
  exact ⟨h.1, fun z => (h.2 z).cg (fun j hj => a (j + 27) (by omega) (by omega)) rfl⟩
theorem QIR.cg {I I' J J' : Nat → Int32} {M M' K K' : Nat → Nat → Int32} (h : QIR I M J K) (a : ∀ j, j < 41 → 34 ≤ j → I' j = I j) (c : M' 19 = M 19) (d : J' 17 = J 17) (e : K' 19 = K 19) : QIR I' M' J' K' := by
  unfold QIR at h ⊢
  rw [a 34 (by omega) (by omega), c, d, e]
  exact ⟨h.1, fun z => (h.2 z).cg (fun j hj => a (j + 34) (by omega) (by omega)) rfl⟩
theorem QL.cg {I I' J J' : Nat → Int32} {M M' K K' : Nat → Nat → Int32} (h : QL I M J K) (a : M' 23 = M 23) (b : M' 24 = M 24) (c : K' 27 = K 27) (d : K' 28 = K 28) : QL I' M' J' K' := by
  unfold QL at h ⊢
  rw [a, b, c, d]
  exact h
theorem QO.cg {I I' J J' : Nat → Int32} {M M' K K' : Nat → Nat → Int32} (h : QO I M J K) (a : M' 28 = M 28) (b : M' 29 = M 29) (c : M' 30 = M 30) (d : K' 32 = K 32) (e : K' 33 = K 33) (f : K' 34 = K 34) : QO I' M' J' K' := by
  unfold QO OR at h ⊢
  rw [a, b, c, d, e, f]
  exact h
/-! DAYS that are kept -/
/-- an image of the SEARCH -/
theorem cp8 {N : Nat} {I I2 : Nat → Int32} {M M2 : Nat → Nat → Int32} {r : (Nat → Int32) × (Nat → Nat → Int32)} (h : fX8_copyFrom N I M I2 M2 = some r) : (∀ j, j < 7 → r.1 j = I2 j) ∧ ∀ j, j < 20 → r.2 0 j = M2 0 j := by
  unfold fX8_copyFrom at h
  obtain ⟨-, h⟩ := wb_n h
  obtain ⟨a1, e1, h⟩ := wb_v h
  obtain ⟨a2, e2, h⟩ := wb_v h
  obtain ⟨a3, e3, h⟩ := wb_v h
  obtain ⟨a4, e4, h⟩ := wb_v h
  obtain ⟨a5, e5, h⟩ := wb_v h
  obtain ⟨a6, e6, h⟩ := wb_v h
  obtain ⟨a7, e7, h⟩ := wb_v h
  obtain ⟨-, h⟩ := wb_n h
  obtain ⟨m8, e8, h⟩ := wb_v h
  have h := Option.some.inj h
  rw [← h]
  refine ⟨fun j hj => ?_, fun j hj => ?_⟩
  · show a7 j = I2 j
    rw [e7, e6, e5, e4, e3, e2, e1]
    rcases (by omega : j = 0 ∨ j = 1 ∨ j = 2 ∨ j = 3 ∨ j = 4 ∨ j = 5 ∨ j = 6) with z | z | z | z | z | z | z <;> subst z <;> rfl
  · show m8 0 j = M2 0 j
    rw [e8]
    show va_cpy (M2 0) (M 0) 0 0 20 j = _
    exact cpy0 hj
/-- a SEARCH begins -/
theorem hx_seek {N : Nat} {I0 I1 : Nat → Int32} {M0 M1 : Nat → Nat → Int32} {L1 : Int64} {x1 x2 x3 x4 : Int32} {r : Int32 × (Nat → Int32) × (Nat → Nat → Int32)} {s : (Nat → Int32) × Int64 × (Nat → Nat → Int32)} (e1 : fL_seek N I0 M0 x1 x2 x3 x4 = some r) (e3 : fX12_seek N I1 L1 M1 x1 x2 x3 x4 = some s) (hs : QSR I0 M0 I1 M1) : QSR r.2.1 r.2.2 s.1 s.2.2 := by
  unfold fL_seek at e1
  unfold fX12_seek at e3
  obtain ⟨s10, g10, g⟩ := wb_b e3
  have same : fX11_seek N I0 M0 x1 x2 x3 x4 = some (.inl 1) → r.2.1 = I0 ∧ r.2.2 = M0 := by
    intro e
    rcases fr_hp e1 with ⟨k, e', h⟩ | ⟨a, e', h⟩
    · obtain ⟨c, h⟩ := wb_y h
      rw [← Option.some.inj h]
      exact ⟨rfl, rfl⟩
    · rw [e] at e'
      cases e'
  have cj : ∀ (b : Int32), (¬ b = 0 → BW x1 x2 ∧ (0 ≤ x3.toInt ∧ x3.toInt ≤ 3) ∧ 0 ≤ x4.toInt ∧ x4.toInt ≤ 1000000) → fX11_seek_J29 N x1 x2 x3 x4 I0 M0 ((20 : Int32) * x1 + x2) b = fX11_seek N I0 M0 x1 x2 x3 x4 → fX12_seek_J35 N x1 x2 x3 x4 (upd I1 0 0) L1 M1 b = some s → QSR r.2.1 r.2.2 s.1 s.2.2 := by
    intro b hb e g
    unfold fX12_seek_J35 at g
    obtain ⟨r1, f1, g⟩ := wb_b g
    rcases rt12 (J := upd I1 0 0) rfl (by decide) f1 with ⟨z, y⟩ | ⟨z, y⟩
    · subst y
      have g := wb_f (c := (1 : Int32) = 0) (by decide) g
      obtain ⟨J2, eJ2, g⟩ := wb_v g
      rw [k12_0, k12_1, k12_2, k12_3, k12_4, k12_5, k12_6] at g
      obtain ⟨-, g⟩ := wb_n g
      obtain ⟨m3, e3, g⟩ := wb_v g
      obtain ⟨-, g⟩ := wb_n g
      obtain ⟨m4, e4, g⟩ := wb_v g
      obtain ⟨-, g⟩ := wb_n g
      obtain ⟨m5, e5, g⟩ := wb_v g
      obtain ⟨-, g⟩ := wb_n g
      obtain ⟨m6, e6, g⟩ := wb_v g
      obtain ⟨-, g⟩ := wb_n g
      obtain ⟨m7, e7, g⟩ := wb_v g
      obtain ⟨-, g⟩ := wb_n g
      obtain ⟨m8, e8, g⟩ := wb_v g
      obtain ⟨-, g⟩ := wb_n g
      obtain ⟨m9, e9, g⟩ := wb_v g
      have g := Option.some.inj g
      obtain ⟨⟨b1, b2⟩, b3, b4⟩ := hb z
      have e2 := e.symm
      unfold fX11_seek_J29 at e2
      rcases fr_hp e1 with ⟨k, e', h⟩ | ⟨a, e', h⟩
      · rw [e2] at e'
        rcases nd11 e' with ⟨w, -⟩ | ⟨-, h2⟩
        · exact absurd w z
        · obtain ⟨R, hR, -⟩ := oki h2
          cases hR
      · rw [e2] at e'
        rcases nd11 e' with ⟨w, -⟩ | ⟨-, h2⟩
        · exact absurd w z
        · obtain ⟨R, hR, h2⟩ := oki h2
          have hR := Sum.inr.inj hR
          subst hR
          obtain ⟨r2, f2, h2⟩ := wb_b h2
          obtain ⟨I3, eI, h2⟩ := wb_v h2
          obtain ⟨M4, eM, h2⟩ := wb_v h2
          obtain ⟨p0, p1, p2, p3, p4, p5, p6, p7⟩ := bg8 f2
          have i3 : ∀ j, j < 7 → I3 (j + 27) = r2.1 j := by
            intro j hj
            rw [eI, wbi_in (by omega) (by omega), Nat.add_sub_cancel]
          have t20 : (20 : Int32).toInt = 20 := by decide
          have m1 := ia_mul 20 20 t20 x1 (by omega) (by omega)
          have s1 := ia_add ((20 : Int32) * x1) x2 (by omega) (by omega)
          rw [← Option.some.inj h, ← Option.some.inj h2, ← g]
          refine ⟨?_, fun _ => ⟨?_, ?_, ?_, ?_, ?_, ?_, Or.inl ⟨?_, ?_, ?_, ?_, ?_, ?_, ?_⟩⟩⟩
          · show I3 27 = J2 16
            rw [show I3 27 = r2.1 0 from i3 0 (by omega), p0, eJ2]
            rfl
          · show I3 28 = m9 18 0
            rw [show I3 28 = r2.1 1 from i3 1 (by omega), p1, e9, e8, e7, e6, e5, e4, e3]
            rfl
          · show I3 29 = m9 18 1
            rw [show I3 29 = r2.1 2 from i3 2 (by omega), p2, e9, e8, e7, e6, e5, e4, e3]
            rfl
          · show I3 30 = m9 18 2
            rw [show I3 30 = r2.1 3 from i3 3 (by omega), p3, e9, e8, e7, e6, e5, e4, e3]
            rfl
          · show 0 ≤ (I3 28).toInt ∧ (I3 28).toInt ≤ 119
            rw [show I3 28 = r2.1 1 from i3 1 (by omega), p1]
            omega
          · show 0 ≤ (I3 29).toInt ∧ (I3 29).toInt ≤ 3
            rw [show I3 29 = r2.1 2 from i3 2 (by omega), p2]
            exact b3
          · show 0 ≤ (I3 30).toInt ∧ (I3 30).toInt ≤ 1000001
            rw [show I3 30 = r2.1 3 from i3 3 (by omega), p3]
            omega
          · show I3 31 = 1000
            rw [show I3 31 = r2.1 4 from i3 4 (by omega), p4]
          · show I3 32 = 0
            rw [show I3 32 = r2.1 5 from i3 5 (by omega), p5]
          · show I3 33 = -1
            rw [show I3 33 = r2.1 6 from i3 6 (by omega), p6]
          · rw [e9, e8, e7, e6, e5, e4, e3]; rfl
          · rw [e9, e8, e7, e6, e5, e4, e3]; rfl
          · rw [e9, e8, e7, e6, e5, e4, e3]; rfl
          · rw [e9, e8, e7, e6, e5, e4, e3]; rfl
    · subst y
      have g := wb_t (c := (0 : Int32) = 0) rfl g
      have e2 := e.symm
      unfold fX11_seek_J29 at e2
      rw [z, need0] at e2
      obtain ⟨q1, q2⟩ := same e2
      rw [q1, q2, ← Option.some.inj g]
      exact hs
  rcases iw12 g10 with ⟨hb, q⟩ | ⟨hb, q⟩
  · subst q
    have g := wb_f (c := (1 : Int32) = 0) (by decide) g
    have cn : fX11_numberOf N x1 x2 = some (.inr ((20 : Int32) * x1 + x2)) := by
      rcases fr_hp e1 with ⟨k, e', h⟩ | ⟨a, e', h⟩
      · unfold fX11_seek at e'
        rcases xbi e' with ⟨k2, f, -⟩ | ⟨n, f, -⟩
        · rcases nb11 f with ⟨-, z⟩ | ⟨z, -⟩
          · cases z
          · exact absurd hb z
        · rcases nb11 f with ⟨-, z⟩ | ⟨z, -⟩
          · rw [f, z]
          · exact absurd hb z
      · unfold fX11_seek at e'
        rcases xbi e' with ⟨k2, f, -⟩ | ⟨n, f, -⟩
        · rcases nb11 f with ⟨-, z⟩ | ⟨z, -⟩
          · cases z
          · exact absurd hb z
        · rcases nb11 f with ⟨-, z⟩ | ⟨z, -⟩
          · rw [f, z]
          · exact absurd hb z
    obtain ⟨s11, g11, g⟩ := wb_b g
    have w11 : fX11_within N x3 0 3 = some s11 := by rw [wn11, ← g11, wn12]
    rcases ck_within12 0 3 (by decide) (by decide) g11 with ⟨q, c⟩ | ⟨q, c⟩
    · have g := wb_f (by rw [q]; decide) g
      obtain ⟨s12, g12, g⟩ := wb_b g
      have w12 : fX11_isDay N x4 = some s12 := by
        unfold fX11_isDay
        rw [wn11, ← wn12 (N := N), g12]
        show (if s12 &&& 1 = s12 then some s12 else none) = some s12
        rcases ck_within12 0 1000000 (by decide) (by decide) g12 with ⟨q, -⟩ | ⟨q, -⟩ <;> rw [q] <;> rfl
      rcases ck_within12 0 1000000 (by decide) (by decide) g12 with ⟨q2, c2⟩ | ⟨q2, c2⟩
      · have g := wb_f (by rw [q2]; decide) g
        refine cj 1 (fun _ => ⟨hb, c, c2⟩) ?_ g
        unfold fX11_seek
        rw [cn]
        show _ = (fX11_within N x3 0 3).bind _
        rw [w11, Option.bind_some, if_neg (by rw [q]; decide), w12, Option.bind_some, if_neg (by rw [q2]; decide)]
      · have g := wb_t q2 g
        unfold fX12_seek_J34 at g
        refine cj 0 (fun z => absurd rfl z) ?_ g
        unfold fX11_seek
        rw [cn]
        show _ = (fX11_within N x3 0 3).bind _
        rw [w11, Option.bind_some, if_neg (by rw [q]; decide), w12, Option.bind_some, if_pos q2]
        rfl
    · have g := wb_t q g
      unfold fX12_seek_J34 at g
      refine cj 0 (fun z => absurd rfl z) ?_ g
      unfold fX11_seek
      rw [cn]
      show _ = (fX11_within N x3 0 3).bind _
      rw [w11, Option.bind_some, if_pos q]
      rfl
  · subst q
    have g := Option.some.inj (wb_t (c := (0 : Int32) = 0) rfl g)
    have e2 : fX11_seek N I0 M0 x1 x2 x3 x4 = some (.inl 1) := by
      rcases fr_hp e1 with ⟨k, e', h⟩ | ⟨a, e', h⟩
      · have e'' := e'
        unfold fX11_seek at e''
        rcases xbi e'' with ⟨k2, f, f2⟩ | ⟨n, f, -⟩
        · rcases nb11 f with ⟨z, -⟩ | ⟨-, z⟩
          · exact absurd z hb
          · rw [e', f2, Sum.inl.inj z]
        · rcases nb11 f with ⟨z, -⟩ | ⟨-, z⟩
          · exact absurd z hb
          · cases z
      · unfold fX11_seek at e'
        rcases xbi e' with ⟨k2, f, f2⟩ | ⟨n, f, -⟩
        · cases f2
        · rcases nb11 f with ⟨z, -⟩ | ⟨-, z⟩
          · exact absurd z hb
          · cases z
    obtain ⟨q1, q2⟩ := same e2
    rw [q1, q2, ← g]
    exact hs
/-! LEAVES -/
/-! how many -/
theorem an_agree {N : Nat} (hN : 3000000000 ≤ N) {I0 I1 : Nat → Int32} {M0 M1 : Nat → Nat → Int32} {L1 : Int64} {x1 x2 x3 x4 : Int32} {o : Nat → Int64} {r : Int32 × (Nat → Int32) × (Nat → Nat → Int32) × (Nat → Int64)} {s : Int32 × (Nat → Int32) × Int64 × (Nat → Nat → Int32)} (k0 : KX11 I0 M0) (k1 : KX12 I1 M1) (e1 : fL_agree N I0 M0 x1 x2 x3 x4 o = some r) (e3 : fX12_agree N I1 L1 M1 x1 x2 x3 x4 = some s) (hr : RR I0 M0 I1 M1) : s.2.1 0 = r.1 ∧ (r.1 = 0 → r.2.2.2 0 = s.1.toInt64) := by
  unfold fL_agree at e1
  have hr0 := hr.j0 0
  have u1 : (upd I1 0 0 1).toInt = (I1 1).toInt := rfl
  have ht := hr.2.2
  have er := hr.2.1
  have h91 := congrArg Int32.toInt ht.1
  have u2 : (((1 : Int32), upd I1 0 0, L1, M1).snd.fst 1).toInt = (I1 1).toInt := rfl
  have i9 := k0.i9
  have key : ∀ q, fX11_agree N I0 M0 x1 x2 x3 x4 = some q → (q = .inl 1 ∧ s.2.1 0 = 1) ∨ ∃ a, q = .inr a ∧ s.2.1 0 = 0 ∧ a = s.1 := by
    intro q h
    unfold fX11_agree at h
    rcases xbi h with ⟨k2, h13, h⟩ | ⟨n4, h13, h⟩
    · rcases nb11 h13 with ⟨-, z6⟩ | ⟨cb5, z6⟩
      · cases z6
      · have z6 := Sum.inl.inj z6
        rw [z6] at h
        unfold BW at cb5
        have g := e3
        unfold fX12_agree at g
        obtain ⟨r7, e8, g⟩ := wb_b g
        rcases iw12 e8 with ⟨c10, q9⟩ | ⟨c10, q9⟩
        · subst q9
          unfold BW at c10
          have g := wb_f (c := (1 : Int32) = 0) (by decide) g
          obtain ⟨r11, e12, g⟩ := wb_b g
          rcases ck12_isWay rfl e12 with ⟨c14, q13⟩ | ⟨c14, q13⟩
          · subst q13
            have g := wb_f (c := (1 : Int32) = 0) (by decide) g
            exfalso
            omega
          · subst q13
            have g := wb_t (c := (0 : Int32) = 0) rfl g
            have g := Option.some.inj g
            subst g
            exact Or.inl ⟨h, rfl⟩
        · subst q9
          unfold BW at c10
          have g := wb_t (c := (0 : Int32) = 0) rfl g
          have g := Option.some.inj g
          subst g
          exact Or.inl ⟨h, rfl⟩
    · rcases nb11 h13 with ⟨cb5, z6⟩ | ⟨-, z6⟩
      · have z6 := Sum.inr.inj z6
        rw [z6] at h
        unfold BW at cb5
        obtain ⟨r15, e16, h⟩ := wb_b h
        rcases ck_isWay k0.i9 e16 with ⟨q17, c18⟩ | ⟨q17, c18⟩
        · rcases nd11 h with ⟨c19, h⟩ | ⟨c19, h⟩
          · exact absurd c19 (by rw [q17]; decide)
          · obtain ⟨a, ha, h⟩ := oki h
            have g := e3
            unfold fX12_agree at g
            obtain ⟨r20, e21, g⟩ := wb_b g
            rcases iw12 e21 with ⟨c23, q22⟩ | ⟨c23, q22⟩
            · subst q22
              unfold BW at c23
              have g := wb_f (c := (1 : Int32) = 0) (by decide) g
              obtain ⟨r24, e25, g⟩ := wb_b g
              rcases ck12_isWay rfl e25 with ⟨c27, q26⟩ | ⟨c27, q26⟩
              · subst q26
                have g := wb_f (c := (1 : Int32) = 0) (by decide) g
                obtain ⟨a2, f2, h⟩ := wb_b h
                obtain ⟨b2, g2, g⟩ := wb_b g
                have ea := at_eq er f2 g2
                rw [← ea] at g g2
                rcases ifr h with ⟨cc, h⟩ | ⟨cc, h⟩
                · have h := Option.some.inj h
                  have g := Option.some.inj (wb_t cc g)
                  subst h
                  subst g
                  exact Or.inr ⟨_, ha, rfl, rfl⟩
                · have g := wb_f cc g
                  have rg := (dg_rg k1.een k1.m7 (by omega) (by omega) (by decide) g2).2 cc
                  obtain ⟨a5, f5, h⟩ := wb_b h
                  obtain ⟨a6, f6, h⟩ := wb_b h
                  obtain ⟨b6, g6, g⟩ := wb_b g
                  have h := Option.some.inj h
                  have g := Option.some.inj g
                  subst h
                  subst g
                  refine Or.inr ⟨_, ha, rfl, (ag_eq (m1 := wb_sh M0 5) er f2 g2 (fun y b c hy f g => ho_eq (m := wb_sh M0 5) (fun w0 w1 => ?_) rg hy f g) f5 f6 g6).symm⟩
                  have w0 : ¬ _ := fun z => w0 ((eq32 rfl ni0).mpr z)
                  have w1 : ¬ _ := fun z => w1 ((eq32 rfl ni1).mpr z)
                  exact ⟨x4.toInt.toNat, CL.of (c := x4.toInt.toNat) hr0.2.2 k1.er1 (show (x4.toInt.toNat : Int) < (I1 1).toInt by omega), CL.of (c := 0) hr0.2.2 k1.er1 (show ((0 : Nat) : Int) < (I1 1).toInt by omega), by omega⟩
              · subst q26
                have g := wb_t (c := (0 : Int32) = 0) rfl g
                have g := Option.some.inj g
                subst g
                exfalso
                omega
            · subst q22
              unfold BW at c23
              have g := wb_t (c := (0 : Int32) = 0) rfl g
              have g := Option.some.inj g
              subst g
              exfalso
              omega
        · rcases nd11 h with ⟨c28, h⟩ | ⟨c28, h⟩
          · have g := e3
            unfold fX12_agree at g
            obtain ⟨r29, e30, g⟩ := wb_b g
            rcases iw12 e30 with ⟨c32, q31⟩ | ⟨c32, q31⟩
            · subst q31
              unfold BW at c32
              have g := wb_f (c := (1 : Int32) = 0) (by decide) g
              obtain ⟨r33, e34, g⟩ := wb_b g
              rcases ck12_isWay rfl e34 with ⟨c36, q35⟩ | ⟨c36, q35⟩
              · subst q35
                have g := wb_f (c := (1 : Int32) = 0) (by decide) g
                exfalso
                omega
              · subst q35
                have g := wb_t (c := (0 : Int32) = 0) rfl g
                have g := Option.some.inj g
                subst g
                exact Or.inl ⟨h, rfl⟩
            · subst q31
              unfold BW at c32
              have g := wb_t (c := (0 : Int32) = 0) rfl g
              have g := Option.some.inj g
              subst g
              exact Or.inl ⟨h, rfl⟩
          · exact absurd q17 c28
      · cases z6
  exact fin_1n e1 key
/-- class and reference side by side -/
def RQ (I0 : Nat → Int32) (M0 : Nat → Nat → Int32) (I1 : Nat → Int32) (M1 : Nat → Nat → Int32) : Prop := RR I0 M0 I1 M1 ∧ True
theorem RQ_fresh : RQ fx_I fx_M fm_I fm_M := ⟨RR_fresh, trivial⟩
theorem rq_feed {N : Nat} (hN : 3000000000 ≤ N) {I0 : Nat → Int32} {M0 : Nat → Nat → Int32} {I1 : Nat → Int32} {L1 : Int64} {M1 : Nat → Nat → Int32} {x1 : Int32} {x2 : Int32} {x3 : Int32} {x4 : Int32} {x5 : Int32} {r1} {r2} (e1 : fX11_feed N I0 M0 x1 x2 x3 x4 x5 = some r1) (e3 : fX12_feed N I1 L1 M1 x1 x2 x3 x4 x5 = some r2) (k0 : KX11 I0 M0) (k1 : KX12 I1 M1) (hr : RQ I0 M0 I1 M1) : RQ r1.2.1 r1.2.2 r2.2.1 r2.2.2.2 := by
  have f3 := fr_fX12_feed e3
  have f1 := fr_fX11_feed e1
  exact ⟨⟨hd_T_feed e1 e3 hr.1, hr.1.2.1.cg (f1.2 13 (by decide)) (f3.2 7 (by decide)), hr.1.2.2.cg (f1.1 9 (by decide)) (f1.1 10 (by decide)) (fun k h1 h2 => f1.2 k ((by decide : ∀ k, k < 7 → 1 ≤ k → ¬ k ∈ fwM_X11_feed) k h1 h2)) (f3.1 1 (by decide)) (f3.1 2 (by decide)) (fun k h1 => f3.2 k ((by decide : ∀ k, k < 7 → ¬ k ∈ fwM_X12_feed) k h1))⟩, trivial⟩
theorem rq_house {N : Nat} (hN : 3000000000 ≤ N) {I0 : Nat → Int32} {M0 : Nat → Nat → Int32} {I1 : Nat → Int32} {L1 : Int64} {M1 : Nat → Nat → Int32} {x1 : Int32} {o2 : Nat → Int64} {r1} {r3} (e1 : fL_house N I0 M0 x1 o2 = some r1) (e3 : fX12_house N I1 L1 M1 x1 = some r3) (k0 : KX11 I0 M0) (k1 : KX12 I1 M1) (hr : RQ I0 M0 I1 M1) : RQ r1.2.1 r1.2.2.1 r3.2.1 r3.2.2.2 := by
  have f3 := fr_fX12_house e3
  have f1 := fr_fL_house e1
  exact ⟨⟨(hs_house e1 e3 hr.1).1, hr.1.2.1.cg (f1.2 13 (by decide)) (f3.2 7 (by decide)), (hs_house e1 e3 hr.1).2⟩, trivial⟩
theorem rq_wheel {N : Nat} (hN : 3000000000 ≤ N) {I0 : Nat → Int32} {M0 : Nat → Nat → Int32} {I1 : Nat → Int32} {L1 : Int64} {M1 : Nat → Nat → Int32} {x1 : Int32} {x2 : Int32} {x3 : Int32} {o4 : Nat → Int64} {r1} {r3} (e1 : fL_wheel N I0 M0 x1 x2 x3 o4 = some r1) (e3 : fX12_wheel N I1 L1 M1 x1 x2 x3 = some r3) (k0 : KX11 I0 M0) (k1 : KX12 I1 M1) (hr : RQ I0 M0 I1 M1) : RQ r1.2.1 r1.2.2.1 r3.2.1 r3.2.2.2 := by
  have f3 := fr_fX12_wheel e3
  have f1 := fr_fL_wheel e1
  exact ⟨⟨(hs_wheel hN e1 e3 hr.1).1, (hs_wheel hN e1 e3 hr.1).2.1, hr.1.2.2.cg (f1.1 9 (by decide)) (f1.1 10 (by decide)) (fun k h1 h2 => f1.2 k ((by decide : ∀ k, k < 7 → 1 ≤ k → ¬ k ∈ fwM_L_wheel) k h1 h2)) (f3.1 1 (by decide)) (f3.1 2 (by decide)) (fun k h1 => f3.2 k ((by decide : ∀ k, k < 7 → ¬ k ∈ fwM_X12_wheel) k h1))⟩, trivial⟩
theorem rq_fault {N : Nat} (hN : 3000000000 ≤ N) {I0 : Nat → Int32} {M0 : Nat → Nat → Int32} {I1 : Nat → Int32} {L1 : Int64} {M1 : Nat → Nat → Int32} {r1} {r2} (e1 : fX11_fault N I0 M0  = some r1) (e3 : fX12_fault N I1 L1 M1  = some r2) (k0 : KX11 I0 M0) (k1 : KX12 I1 M1) (hr : RQ I0 M0 I1 M1) : RQ I0 M0 r2.2.1 r2.2.2.2 := by
  have f3 := fr_fX12_fault e3
  exact ⟨⟨hr.1.1.cg rfl (f3.1 3 (by decide)) rfl (f3.2 8 (by decide)), hr.1.2.1.cg rfl (f3.2 7 (by decide)), hr.1.2.2.cg rfl rfl (fun _ _ _ => rfl) (f3.1 1 (by decide)) (f3.1 2 (by decide)) (fun k h1 => f3.2 k ((by decide : ∀ k, k < 7 → ¬ k ∈ fwM_X12_fault) k h1))⟩, trivial⟩
theorem rq_count {N : Nat} (hN : 3000000000 ≤ N) {I0 : Nat → Int32} {M0 : Nat → Nat → Int32} {I1 : Nat → Int32} {L1 : Int64} {M1 : Nat → Nat → Int32} {x1 : Int32} {o2 : Nat → Int64} {r1} {r3} (e1 : fL_count N I0 M0 x1 o2 = some r1) (e3 : fX12_count N I1 L1 M1 x1 = some r3) (k0 : KX11 I0 M0) (k1 : KX12 I1 M1) (hr : RQ I0 M0 I1 M1) : RQ r1.2.1 r1.2.2.1 r3.2.1 r3.2.2.2 := by
  have f3 := fr_fX12_count e3
  have f1 := fr_fL_count e1
  exact ⟨⟨hr.1.1.cg (f1.1 0 (by decide)) (f3.1 3 (by decide)) (f1.2 0 (by decide)) (f3.2 8 (by decide)), hr.1.2.1.cg (f1.2 13 (by decide)) (f3.2 7 (by decide)), hr.1.2.2.cg (f1.1 9 (by decide)) (f1.1 10 (by decide)) (fun k h1 h2 => f1.2 k ((by decide : ∀ k, k < 7 → 1 ≤ k → ¬ k ∈ fwM_L_count) k h1 h2)) (f3.1 1 (by decide)) (f3.1 2 (by decide)) (fun k h1 => f3.2 k ((by decide : ∀ k, k < 7 → ¬ k ∈ fwM_X12_count) k h1))⟩, trivial⟩
theorem rq_place {N : Nat} (hN : 3000000000 ≤ N) {I0 : Nat → Int32} {M0 : Nat → Nat → Int32} {I1 : Nat → Int32} {L1 : Int64} {M1 : Nat → Nat → Int32} {x1 : Int32} {x2 : Int32} {x3 : Int32} {o4 : Nat → Int64} {r1} {r3} (e1 : fL_place N I0 M0 x1 x2 x3 o4 = some r1) (e3 : fX12_place N I1 L1 M1 x1 x2 x3 = some r3) (k0 : KX11 I0 M0) (k1 : KX12 I1 M1) (hr : RQ I0 M0 I1 M1) : RQ r1.2.1 r1.2.2.1 r3.2.1 r3.2.2.2 := by
  have f3 := fr_fX12_place e3
  have f1 := fr_fL_place e1
  exact ⟨⟨hr.1.1.cg (f1.1 0 (by decide)) (f3.1 3 (by decide)) (f1.2 0 (by decide)) (f3.2 8 (by decide)), hr.1.2.1.cg (f1.2 13 (by decide)) (f3.2 7 (by decide)), hr.1.2.2.cg (f1.1 9 (by decide)) (f1.1 10 (by decide)) (fun k h1 h2 => f1.2 k ((by decide : ∀ k, k < 7 → 1 ≤ k → ¬ k ∈ fwM_L_place) k h1 h2)) (f3.1 1 (by decide)) (f3.1 2 (by decide)) (fun k h1 => f3.2 k ((by decide : ∀ k, k < 7 → ¬ k ∈ fwM_X12_place) k h1))⟩, trivial⟩
theorem rq_entry {N : Nat} (hN : 3000000000 ≤ N) {I0 : Nat → Int32} {M0 : Nat → Nat → Int32} {I1 : Nat → Int32} {L1 : Int64} {M1 : Nat → Nat → Int32} {x1 : Int32} {x2 : Int32} {x3 : Int32} {o4 : Nat → Int64} {r1} {r3} (e1 : fL_entry N I0 M0 x1 x2 x3 o4 = some r1) (e3 : fX12_entry N I1 L1 M1 x1 x2 x3 = some r3) (k0 : KX11 I0 M0) (k1 : KX12 I1 M1) (hr : RQ I0 M0 I1 M1) : RQ r1.2.1 r1.2.2.1 r3.2.1 r3.2.2.2 := by
  have f3 := fr_fX12_entry e3
  have f1 := fr_fL_entry e1
  exact ⟨⟨hr.1.1.cg (f1.1 0 (by decide)) (f3.1 3 (by decide)) (f1.2 0 (by decide)) (f3.2 8 (by decide)), hr.1.2.1.cg (f1.2 13 (by decide)) (f3.2 7 (by decide)), hr.1.2.2.cg (f1.1 9 (by decide)) (f1.1 10 (by decide)) (fun k h1 h2 => f1.2 k ((by decide : ∀ k, k < 7 → 1 ≤ k → ¬ k ∈ fwM_L_entry) k h1 h2)) (f3.1 1 (by decide)) (f3.1 2 (by decide)) (fun k h1 => f3.2 k ((by decide : ∀ k, k < 7 → ¬ k ∈ fwM_X12_entry) k h1))⟩, trivial⟩
theorem rq_cost {N : Nat} (hN : 3000000000 ≤ N) {I0 : Nat → Int32} {M0 : Nat → Nat → Int32} {I1 : Nat → Int32} {L1 : Int64} {M1 : Nat → Nat → Int32} {x1 : Int32} {x2 : Int32} {x3 : Int32} {x4 : Int32} {o5 : Nat → Int64} {r1} {r3} (e1 : fL_cost N I0 M0 x1 x2 x3 x4 o5 = some r1) (e3 : fX12_cost N I1 L1 M1 x1 x2 x3 x4 = some r3) (k0 : KX11 I0 M0) (k1 : KX12 I1 M1) (hr : RQ I0 M0 I1 M1) : RQ r1.2.1 r1.2.2.1 r3.2.1 r3.2.2.2 := by
  have f3 := fr_fX12_cost e3
  have f1 := fr_fL_cost e1
  exact ⟨⟨hr.1.1.cg (f1.1 0 (by decide)) (f3.1 3 (by decide)) (f1.2 0 (by decide)) (f3.2 8 (by decide)), hr.1.2.1.cg (f1.2 13 (by decide)) (f3.2 7 (by decide)), hr.1.2.2.cg (f1.1 9 (by decide)) (f1.1 10 (by decide)) (fun k h1 h2 => f1.2 k ((by decide : ∀ k, k < 7 → 1 ≤ k → ¬ k ∈ fwM_L_cost) k h1 h2)) (f3.1 1 (by decide)) (f3.1 2 (by decide)) (fun k h1 => f3.2 k ((by decide : ∀ k, k < 7 → ¬ k ∈ fwM_X12_cost) k h1))⟩, trivial⟩
theorem rq_best {N : Nat} (hN : 3000000000 ≤ N) {I0 : Nat → Int32} {M0 : Nat → Nat → Int32} {I1 : Nat → Int32} {L1 : Int64} {M1 : Nat → Nat → Int32} {x1 : Int32} {x2 : Int32} {x3 : Int32} {x4 : Int32} {x5 : Int32} {o6 : Nat → Int64} {r1} {r3} (e1 : fL_best N I0 M0 x1 x2 x3 x4 x5 o6 = some r1) (e3 : fX12_best N I1 L1 M1 x1 x2 x3 x4 x5 = some r3) (k0 : KX11 I0 M0) (k1 : KX12 I1 M1) (hr : RQ I0 M0 I1 M1) : RQ r1.2.1 r1.2.2.1 r3.2.1 r3.2.2.2 := by
  have f3 := fr_fX12_best e3
  have f1 := fr_fL_best e1
  exact ⟨⟨hr.1.1.cg (f1.1 0 (by decide)) (f3.1 3 (by decide)) (f1.2 0 (by decide)) (f3.2 8 (by decide)), hr.1.2.1.cg (f1.2 13 (by decide)) (f3.2 7 (by decide)), hr.1.2.2.cg (f1.1 9 (by decide)) (f1.1 10 (by decide)) (fun k h1 h2 => f1.2 k ((by decide : ∀ k, k < 7 → 1 ≤ k → ¬ k ∈ fwM_L_best) k h1 h2)) (f3.1 1 (by decide)) (f3.1 2 (by decide)) (fun k h1 => f3.2 k ((by decide : ∀ k, k < 7 → ¬ k ∈ fwM_X12_best) k h1))⟩, trivial⟩
theorem rq_day {N : Nat} (hN : 3000000000 ≤ N) {I0 : Nat → Int32} {M0 : Nat → Nat → Int32} {I1 : Nat → Int32} {L1 : Int64} {M1 : Nat → Nat → Int32} {x1 : Int32} {o2 : Nat → Int64} {r1} {r3} (e1 : fL_day N I0 M0 x1 o2 = some r1) (e3 : fX12_day N I1 L1 M1 x1 = some r3) (k0 : KX11 I0 M0) (k1 : KX12 I1 M1) (hr : RQ I0 M0 I1 M1) : RQ r1.2.1 r1.2.2.1 r3.2.1 r3.2.2.2 := by
  have f3 := fr_fX12_day e3
  have f1 := fr_fL_day e1
  exact ⟨⟨hr.1.1.cg (f1.1 0 (by decide)) (f3.1 3 (by decide)) (f1.2 0 (by decide)) (f3.2 8 (by decide)), hr.1.2.1.cg (f1.2 13 (by decide)) (f3.2 7 (by decide)), hr.1.2.2.cg (f1.1 9 (by decide)) (f1.1 10 (by decide)) (fun k h1 h2 => f1.2 k ((by decide : ∀ k, k < 7 → 1 ≤ k → ¬ k ∈ fwM_L_day) k h1 h2)) (f3.1 1 (by decide)) (f3.1 2 (by decide)) (fun k h1 => f3.2 k ((by decide : ∀ k, k < 7 → ¬ k ∈ fwM_X12_day) k h1))⟩, trivial⟩
theorem rq_whose {N : Nat} (hN : 3000000000 ≤ N) {I0 : Nat → Int32} {M0 : Nat → Nat → Int32} {I1 : Nat → Int32} {L1 : Int64} {M1 : Nat → Nat → Int32} {x1 : Int32} {x2 : Int32} {x3 : Int32} {x4 : Int32} {x5 : Int32} {o6 : Nat → Int64} {r1} {r3} (e1 : fL_whose N I0 M0 x1 x2 x3 x4 x5 o6 = some r1) (e3 : fX12_whose N I1 L1 M1 x1 x2 x3 x4 x5 = some r3) (k0 : KX11 I0 M0) (k1 : KX12 I1 M1) (hr : RQ I0 M0 I1 M1) : RQ r1.2.1 r1.2.2.1 r3.2.1 r3.2.2.2 := by
  have f3 := fr_fX12_whose e3
  have f1 := fr_fL_whose e1
  exact ⟨⟨hr.1.1.cg (f1.1 0 (by decide)) (f3.1 3 (by decide)) (f1.2 0 (by decide)) (f3.2 8 (by decide)), hr.1.2.1.cg (f1.2 13 (by decide)) (f3.2 7 (by decide)), hr.1.2.2.cg (f1.1 9 (by decide)) (f1.1 10 (by decide)) (fun k h1 h2 => f1.2 k ((by decide : ∀ k, k < 7 → 1 ≤ k → ¬ k ∈ fwM_L_whose) k h1 h2)) (f3.1 1 (by decide)) (f3.1 2 (by decide)) (fun k h1 => f3.2 k ((by decide : ∀ k, k < 7 → ¬ k ∈ fwM_X12_whose) k h1))⟩, trivial⟩
theorem rq_mixed {N : Nat} (hN : 3000000000 ≤ N) {I0 : Nat → Int32} {M0 : Nat → Nat → Int32} {I1 : Nat → Int32} {L1 : Int64} {M1 : Nat → Nat → Int32} {x1 : Int32} {x2 : Int32} {x3 : Int32} {x4 : Int32} {o5 : Nat → Int64} {r1} {r3} (e1 : fL_mixed N I0 M0 x1 x2 x3 x4 o5 = some r1) (e3 : fX12_mixed N I1 L1 M1 x1 x2 x3 x4 = some r3) (k0 : KX11 I0 M0) (k1 : KX12 I1 M1) (hr : RQ I0 M0 I1 M1) : RQ r1.2.1 r1.2.2.1 r3.2.1 r3.2.2.2 := by
  have f3 := fr_fX12_mixed e3
  have f1 := fr_fL_mixed e1
  exact ⟨⟨hr.1.1.cg (f1.1 0 (by decide)) (f3.1 3 (by decide)) (f1.2 0 (by decide)) (f3.2 8 (by decide)), hr.1.2.1.cg (f1.2 13 (by decide)) (f3.2 7 (by decide)), hr.1.2.2.cg (f1.1 9 (by decide)) (f1.1 10 (by decide)) (fun k h1 h2 => f1.2 k ((by decide : ∀ k, k < 7 → 1 ≤ k → ¬ k ∈ fwM_L_mixed) k h1 h2)) (f3.1 1 (by decide)) (f3.1 2 (by decide)) (fun k h1 => f3.2 k ((by decide : ∀ k, k < 7 → ¬ k ∈ fwM_X12_mixed) k h1))⟩, trivial⟩
theorem rq_climb {N : Nat} (hN : 3000000000 ≤ N) {I0 : Nat → Int32} {M0 : Nat → Nat → Int32} {I1 : Nat → Int32} {L1 : Int64} {M1 : Nat → Nat → Int32} {x1 : Int32} {x2 : Int32} {o3 : Nat → Int64} {r1} {r3} (e1 : fL_climb N I0 M0 x1 x2 o3 = some r1) (e3 : fX12_climb N I1 L1 M1 x1 x2 = some r3) (k0 : KX11 I0 M0) (k1 : KX12 I1 M1) (hr : RQ I0 M0 I1 M1) : RQ r1.2.1 r1.2.2.1 r3.2.1 r3.2.2.2 := by
  have f3 := fr_fX12_climb e3
  have f1 := fr_fL_climb e1
  exact ⟨⟨hr.1.1.cg (f1.1 0 (by decide)) (f3.1 3 (by decide)) (f1.2 0 (by decide)) (f3.2 8 (by decide)), hr.1.2.1.cg (f1.2 13 (by decide)) (f3.2 7 (by decide)), hr.1.2.2.cg (f1.1 9 (by decide)) (f1.1 10 (by decide)) (fun k h1 h2 => f1.2 k ((by decide : ∀ k, k < 7 → 1 ≤ k → ¬ k ∈ fwM_L_climb) k h1 h2)) (f3.1 1 (by decide)) (f3.1 2 (by decide)) (fun k h1 => f3.2 k ((by decide : ∀ k, k < 7 → ¬ k ∈ fwM_X12_climb) k h1))⟩, trivial⟩
theorem rq_rise {N : Nat} (hN : 3000000000 ≤ N) {I0 : Nat → Int32} {M0 : Nat → Nat → Int32} {I1 : Nat → Int32} {L1 : Int64} {M1 : Nat → Nat → Int32} {x1 : Int32} {x2 : Int32} {x3 : Int32} {o4 : Nat → Int64} {r1} {r3} (e1 : fL_rise N I0 M0 x1 x2 x3 o4 = some r1) (e3 : fX12_rise N I1 L1 M1 x1 x2 x3 = some r3) (k0 : KX11 I0 M0) (k1 : KX12 I1 M1) (hr : RQ I0 M0 I1 M1) : RQ r1.2.1 r1.2.2.1 r3.2.1 r3.2.2.2 := by
  have f3 := fr_fX12_rise e3
  have f1 := fr_fL_rise e1
  exact ⟨⟨hr.1.1.cg (f1.1 0 (by decide)) (f3.1 3 (by decide)) (f1.2 0 (by decide)) (f3.2 8 (by decide)), hr.1.2.1.cg (f1.2 13 (by decide)) (f3.2 7 (by decide)), hr.1.2.2.cg (f1.1 9 (by decide)) (f1.1 10 (by decide)) (fun k h1 h2 => f1.2 k ((by decide : ∀ k, k < 7 → 1 ≤ k → ¬ k ∈ fwM_L_rise) k h1 h2)) (f3.1 1 (by decide)) (f3.1 2 (by decide)) (fun k h1 => f3.2 k ((by decide : ∀ k, k < 7 → ¬ k ∈ fwM_X12_rise) k h1))⟩, trivial⟩
theorem rq_middle {N : Nat} (hN : 3000000000 ≤ N) {I0 : Nat → Int32} {M0 : Nat → Nat → Int32} {I1 : Nat → Int32} {L1 : Int64} {M1 : Nat → Nat → Int32} {x1 : Int32} {x2 : Int32} {o3 : Nat → Int64} {r1} {r3} (e1 : fL_middle N I0 M0 x1 x2 o3 = some r1) (e3 : fX12_middle N I1 L1 M1 x1 x2 = some r3) (k0 : KX11 I0 M0) (k1 : KX12 I1 M1) (hr : RQ I0 M0 I1 M1) : RQ r1.2.1 r1.2.2.1 r3.2.1 r3.2.2.2 := by
  have f3 := fr_fX12_middle e3
  have f1 := fr_fL_middle e1
  exact ⟨⟨hr.1.1.cg (f1.1 0 (by decide)) (f3.1 3 (by decide)) (f1.2 0 (by decide)) (f3.2 8 (by decide)), hr.1.2.1.cg (f1.2 13 (by decide)) (f3.2 7 (by decide)), hr.1.2.2.cg (f1.1 9 (by decide)) (f1.1 10 (by decide)) (fun k h1 h2 => f1.2 k ((by decide : ∀ k, k < 7 → 1 ≤ k → ¬ k ∈ fwM_L_middle) k h1 h2)) (f3.1 1 (by decide)) (f3.1 2 (by decide)) (fun k h1 => f3.2 k ((by decide : ∀ k, k < 7 → ¬ k ∈ fwM_X12_middle) k h1))⟩, trivial⟩
theorem rq_hour {N : Nat} (hN : 3000000000 ≤ N) {I0 : Nat → Int32} {M0 : Nat → Nat → Int32} {I1 : Nat → Int32} {L1 : Int64} {M1 : Nat → Nat → Int32} {x1 : Int32} {x2 : Int32} {x3 : Int32} {o4 : Nat → Int64} {r1} {r3} (e1 : fL_hour N I0 M0 x1 x2 x3 o4 = some r1) (e3 : fX12_hour N I1 L1 M1 x1 x2 x3 = some r3) (k0 : KX11 I0 M0) (k1 : KX12 I1 M1) (hr : RQ I0 M0 I1 M1) : RQ r1.2.1 r1.2.2.1 r3.2.1 r3.2.2.2 := by
  have f3 := fr_fX12_hour e3
  have f1 := fr_fL_hour e1
  exact ⟨⟨hr.1.1.cg (f1.1 0 (by decide)) (f3.1 3 (by decide)) (f1.2 0 (by decide)) (f3.2 8 (by decide)), hr.1.2.1.cg (f1.2 13 (by decide)) (f3.2 7 (by decide)), hr.1.2.2.cg (f1.1 9 (by decide)) (f1.1 10 (by decide)) (fun k h1 h2 => f1.2 k ((by decide : ∀ k, k < 7 → 1 ≤ k → ¬ k ∈ fwM_L_hour) k h1 h2)) (f3.1 1 (by decide)) (f3.1 2 (by decide)) (fun k h1 => f3.2 k ((by decide : ∀ k, k < 7 → ¬ k ∈ fwM_X12_hour) k h1))⟩, trivial⟩
theorem rq_houseOf {N : Nat} (hN : 3000000000 ≤ N) {I0 : Nat → Int32} {M0 : Nat → Nat → Int32} {I1 : Nat → Int32} {L1 : Int64} {M1 : Nat → Nat → Int32} {x1 : Int32} {x2 : Int32} {x3 : Int32} {x4 : Int32} {o5 : Nat → Int64} {r1} {r3} (e1 : fL_houseOf N I0 M0 x1 x2 x3 x4 o5 = some r1) (e3 : fX12_houseOf N I1 L1 M1 x1 x2 x3 x4 = some r3) (k0 : KX11 I0 M0) (k1 : KX12 I1 M1) (hr : RQ I0 M0 I1 M1) : RQ r1.2.1 r1.2.2.1 r3.2.1 r3.2.2.2 := by
  have f3 := fr_fX12_houseOf e3
  have f1 := fr_fL_houseOf e1
  exact ⟨⟨hr.1.1.cg (f1.1 0 (by decide)) (f3.1 3 (by decide)) (f1.2 0 (by decide)) (f3.2 8 (by decide)), hr.1.2.1.cg (f1.2 13 (by decide)) (f3.2 7 (by decide)), hr.1.2.2.cg (f1.1 9 (by decide)) (f1.1 10 (by decide)) (fun k h1 h2 => f1.2 k ((by decide : ∀ k, k < 7 → 1 ≤ k → ¬ k ∈ fwM_L_houseOf) k h1 h2)) (f3.1 1 (by decide)) (f3.1 2 (by decide)) (fun k h1 => f3.2 k ((by decide : ∀ k, k < 7 → ¬ k ∈ fwM_X12_houseOf) k h1))⟩, trivial⟩
theorem rq_agree {N : Nat} (hN : 3000000000 ≤ N) {I0 : Nat → Int32} {M0 : Nat → Nat → Int32} {I1 : Nat → Int32} {L1 : Int64} {M1 : Nat → Nat → Int32} {x1 : Int32} {x2 : Int32} {x3 : Int32} {x4 : Int32} {o5 : Nat → Int64} {r1} {r3} (e1 : fL_agree N I0 M0 x1 x2 x3 x4 o5 = some r1) (e3 : fX12_agree N I1 L1 M1 x1 x2 x3 x4 = some r3) (k0 : KX11 I0 M0) (k1 : KX12 I1 M1) (hr : RQ I0 M0 I1 M1) : RQ r1.2.1 r1.2.2.1 r3.2.1 r3.2.2.2 := by
  have f3 := fr_fX12_agree e3
  have f1 := fr_fL_agree e1
  exact ⟨⟨hr.1.1.cg (f1.1 0 (by decide)) (f3.1 3 (by decide)) (f1.2 0 (by decide)) (f3.2 8 (by decide)), hr.1.2.1.cg (f1.2 13 (by decide)) (f3.2 7 (by decide)), hr.1.2.2.cg (f1.1 9 (by decide)) (f1.1 10 (by decide)) (fun k h1 h2 => f1.2 k ((by decide : ∀ k, k < 7 → 1 ≤ k → ¬ k ∈ fwM_L_agree) k h1 h2)) (f3.1 1 (by decide)) (f3.1 2 (by decide)) (fun k h1 => f3.2 k ((by decide : ∀ k, k < 7 → ¬ k ∈ fwM_X12_agree) k h1))⟩, trivial⟩
theorem rq_lot {N : Nat} (hN : 3000000000 ≤ N) {I0 : Nat → Int32} {M0 : Nat → Nat → Int32} {I1 : Nat → Int32} {L1 : Int64} {M1 : Nat → Nat → Int32} {x1 : Int32} {x2 : Int32} {x3 : Int32} {o4 : Nat → Int64} {r1} {r3} (e1 : fL_lot N I0 M0 x1 x2 x3 o4 = some r1) (e3 : fX12_lot N I1 L1 M1 x1 x2 x3 = some r3) (k0 : KX11 I0 M0) (k1 : KX12 I1 M1) (hr : RQ I0 M0 I1 M1) : RQ r1.2.1 r1.2.2.1 r3.2.1 r3.2.2.2 := by
  have f3 := fr_fX12_lot e3
  have f1 := fr_fL_lot e1
  exact ⟨⟨hr.1.1.cg (f1.1 0 (by decide)) (f3.1 3 (by decide)) (f1.2 0 (by decide)) (f3.2 8 (by decide)), hr.1.2.1.cg (f1.2 13 (by decide)) (f3.2 7 (by decide)), hr.1.2.2.cg (f1.1 9 (by decide)) (f1.1 10 (by decide)) (fun k h1 h2 => f1.2 k ((by decide : ∀ k, k < 7 → 1 ≤ k → ¬ k ∈ fwM_L_lot) k h1 h2)) (f3.1 1 (by decide)) (f3.1 2 (by decide)) (fun k h1 => f3.2 k ((by decide : ∀ k, k < 7 → ¬ k ∈ fwM_X12_lot) k h1))⟩, trivial⟩
theorem rq_price {N : Nat} (hN : 3000000000 ≤ N) {I0 : Nat → Int32} {M0 : Nat → Nat → Int32} {I1 : Nat → Int32} {L1 : Int64} {M1 : Nat → Nat → Int32} {x1 : Int32} {x2 : Int32} {o3 : Nat → Int64} {r1} {r3} (e1 : fL_price N I0 M0 x1 x2 o3 = some r1) (e3 : fX12_price N I1 L1 M1 x1 x2 = some r3) (k0 : KX11 I0 M0) (k1 : KX12 I1 M1) (hr : RQ I0 M0 I1 M1) : RQ r1.2.1 r1.2.2.1 r3.2.1 r3.2.2.2 := by
  have f3 := fr_fX12_price e3
  have f1 := fr_fL_price e1
  exact ⟨⟨hr.1.1.cg (f1.1 0 (by decide)) (f3.1 3 (by decide)) (f1.2 0 (by decide)) (f3.2 8 (by decide)), hr.1.2.1.cg (f1.2 13 (by decide)) (f3.2 7 (by decide)), hr.1.2.2.cg (f1.1 9 (by decide)) (f1.1 10 (by decide)) (fun k h1 h2 => f1.2 k ((by decide : ∀ k, k < 7 → 1 ≤ k → ¬ k ∈ fwM_L_price) k h1 h2)) (f3.1 1 (by decide)) (f3.1 2 (by decide)) (fun k h1 => f3.2 k ((by decide : ∀ k, k < 7 → ¬ k ∈ fwM_X12_price) k h1))⟩, trivial⟩
theorem rq_seek {N : Nat} (hN : 3000000000 ≤ N) {I0 : Nat → Int32} {M0 : Nat → Nat → Int32} {I1 : Nat → Int32} {L1 : Int64} {M1 : Nat → Nat → Int32} {x1 : Int32} {x2 : Int32} {x3 : Int32} {x4 : Int32} {r1} {r3} (e1 : fL_seek N I0 M0 x1 x2 x3 x4 = some r1) (e3 : fX12_seek N I1 L1 M1 x1 x2 x3 x4 = some r3) (k0 : KX11 I0 M0) (k1 : KX12 I1 M1) (hr : RQ I0 M0 I1 M1) : RQ r1.2.1 r1.2.2 r3.1 r3.2.2 := by
  have f3 := fr_fX12_seek e3
  have f1 := fr_fL_seek e1
  exact ⟨⟨hr.1.1.cg (f1.1 0 (by decide)) (f3.1 3 (by decide)) (f1.2 0 (by decide)) (f3.2 8 (by decide)), hr.1.2.1.cg (f1.2 13 (by decide)) (f3.2 7 (by decide)), hr.1.2.2.cg (f1.1 9 (by decide)) (f1.1 10 (by decide)) (fun k h1 h2 => f1.2 k ((by decide : ∀ k, k < 7 → 1 ≤ k → ¬ k ∈ fwM_L_seek) k h1 h2)) (f3.1 1 (by decide)) (f3.1 2 (by decide)) (fun k h1 => f3.2 k ((by decide : ∀ k, k < 7 → ¬ k ∈ fwM_X12_seek) k h1))⟩, trivial⟩
theorem rq_on {N : Nat} (hN : 3000000000 ≤ N) {I0 : Nat → Int32} {M0 : Nat → Nat → Int32} {I1 : Nat → Int32} {L1 : Int64} {M1 : Nat → Nat → Int32} {x1 : Int32} {o2 : Nat → Int64} {r1} {r3} (e1 : fL_on N I0 M0 x1 o2 = some r1) (e3 : fX12_on N I1 L1 M1 x1 = some r3) (k0 : KX11 I0 M0) (k1 : KX12 I1 M1) (hr : RQ I0 M0 I1 M1) : RQ r1.2.1 r1.2.2.1 r3.2.1 r3.2.2.2 := by
  have f3 := fr_fX12_on e3
  have f1 := fr_fL_on e1
  exact ⟨⟨hr.1.1.cg (f1.1 0 (by decide)) (f3.1 3 (by decide)) (f1.2 0 (by decide)) (f3.2 8 (by decide)), hr.1.2.1.cg (f1.2 13 (by decide)) (f3.2 7 (by decide)), hr.1.2.2.cg (f1.1 9 (by decide)) (f1.1 10 (by decide)) (fun k h1 h2 => f1.2 k ((by decide : ∀ k, k < 7 → 1 ≤ k → ¬ k ∈ fwM_L_on) k h1 h2)) (f3.1 1 (by decide)) (f3.1 2 (by decide)) (fun k h1 => f3.2 k ((by decide : ∀ k, k < 7 → ¬ k ∈ fwM_X12_on) k h1))⟩, trivial⟩
theorem rq_held {N : Nat} (hN : 3000000000 ≤ N) {I0 : Nat → Int32} {M0 : Nat → Nat → Int32} {I1 : Nat → Int32} {L1 : Int64} {M1 : Nat → Nat → Int32} {x1 : Int32} {o2 : Nat → Int64} {r1} {r3} (e1 : fL_held N I0 M0 x1 o2 = some r1) (e3 : fX12_held N I1 L1 M1 x1 = some r3) (k0 : KX11 I0 M0) (k1 : KX12 I1 M1) (hr : RQ I0 M0 I1 M1) : RQ r1.2.1 r1.2.2.1 r3.2.1 r3.2.2.2 := by
  have f3 := fr_fX12_held e3
  have f1 := fr_fL_held e1
  exact ⟨⟨hr.1.1.cg (f1.1 0 (by decide)) (f3.1 3 (by decide)) (f1.2 0 (by decide)) (f3.2 8 (by decide)), hr.1.2.1.cg (f1.2 13 (by decide)) (f3.2 7 (by decide)), hr.1.2.2.cg (f1.1 9 (by decide)) (f1.1 10 (by decide)) (fun k h1 h2 => f1.2 k ((by decide : ∀ k, k < 7 → 1 ≤ k → ¬ k ∈ fwM_L_held) k h1 h2)) (f3.1 1 (by decide)) (f3.1 2 (by decide)) (fun k h1 => f3.2 k ((by decide : ∀ k, k < 7 → ¬ k ∈ fwM_X12_held) k h1))⟩, trivial⟩
theorem rq_image {N : Nat} (hN : 3000000000 ≤ N) {I0 : Nat → Int32} {M0 : Nat → Nat → Int32} {I1 : Nat → Int32} {L1 : Int64} {M1 : Nat → Nat → Int32} {r1} {r2} (e1 : fX11_image N I0 M0  = some r1) (e3 : fX12_image N I1 L1 M1  = some r2) (k0 : KX11 I0 M0) (k1 : KX12 I1 M1) (hr : RQ I0 M0 I1 M1) : RQ r1.2.1 r1.2.2 r2.2.1 r2.2.2.2 := by
  have f3 := fr_fX12_image e3
  have f1 := fr_fX11_image e1
  exact ⟨⟨hr.1.1.cg (f1.1 0 (by decide)) (f3.1 3 (by decide)) (f1.2 0 (by decide)) (f3.2 8 (by decide)), hr.1.2.1.cg (f1.2 13 (by decide)) (f3.2 7 (by decide)), hr.1.2.2.cg (f1.1 9 (by decide)) (f1.1 10 (by decide)) (fun k h1 h2 => f1.2 k ((by decide : ∀ k, k < 7 → 1 ≤ k → ¬ k ∈ fwM_X11_image) k h1 h2)) (f3.1 1 (by decide)) (f3.1 2 (by decide)) (fun k h1 => f3.2 k ((by decide : ∀ k, k < 7 → ¬ k ∈ fwM_X12_image) k h1))⟩, trivial⟩
theorem rq_restore {N : Nat} (hN : 3000000000 ≤ N) {I0 : Nat → Int32} {M0 : Nat → Nat → Int32} {I1 : Nat → Int32} {L1 : Int64} {M1 : Nat → Nat → Int32} {r1} {r2} (e1 : fX11_restore N I0 M0  = some r1) (e3 : fX12_restore N I1 L1 M1  = some r2) (k0 : KX11 I0 M0) (k1 : KX12 I1 M1) (hr : RQ I0 M0 I1 M1) : RQ r1.2.1 r1.2.2 r2.2.1 r2.2.2.2 := by
  have f3 := fr_fX12_restore e3
  have f1 := fr_fX11_restore e1
  exact ⟨⟨hr.1.1.cg (f1.1 0 (by decide)) (f3.1 3 (by decide)) (f1.2 0 (by decide)) (f3.2 8 (by decide)), hr.1.2.1.cg (f1.2 13 (by decide)) (f3.2 7 (by decide)), hr.1.2.2.cg (f1.1 9 (by decide)) (f1.1 10 (by decide)) (fun k h1 h2 => f1.2 k ((by decide : ∀ k, k < 7 → 1 ≤ k → ¬ k ∈ fwM_X11_restore) k h1 h2)) (f3.1 1 (by decide)) (f3.1 2 (by decide)) (fun k h1 => f3.2 k ((by decide : ∀ k, k < 7 → ¬ k ∈ fwM_X12_restore) k h1))⟩, trivial⟩
theorem rq_misread {N : Nat} (hN : 3000000000 ≤ N) {I0 : Nat → Int32} {M0 : Nat → Nat → Int32} {I1 : Nat → Int32} {L1 : Int64} {M1 : Nat → Nat → Int32} {x1 : Int32} {x2 : Int32} {x3 : Int32} {x4 : Int32} {x5 : Int32} {o6 : Nat → Int64} {r1} {r3} (e1 : fL_misread N I0 M0 x1 x2 x3 x4 x5 o6 = some r1) (e3 : fX12_misread N I1 L1 M1 x1 x2 x3 x4 x5 = some r3) (k0 : KX11 I0 M0) (k1 : KX12 I1 M1) (hr : RQ I0 M0 I1 M1) : RQ r1.2.1 r1.2.2.1 r3.2.1 r3.2.2.2 := by
  have f3 := fr_fX12_misread e3
  have f1 := fr_fL_misread e1
  exact ⟨⟨hr.1.1.cg (f1.1 0 (by decide)) (f3.1 3 (by decide)) (f1.2 0 (by decide)) (f3.2 8 (by decide)), hr.1.2.1.cg (f1.2 13 (by decide)) (f3.2 7 (by decide)), hr.1.2.2.cg (f1.1 9 (by decide)) (f1.1 10 (by decide)) (fun k h1 h2 => f1.2 k ((by decide : ∀ k, k < 7 → 1 ≤ k → ¬ k ∈ fwM_L_misread) k h1 h2)) (f3.1 1 (by decide)) (f3.1 2 (by decide)) (fun k h1 => f3.2 k ((by decide : ∀ k, k < 7 → ¬ k ∈ fwM_X12_misread) k h1))⟩, trivial⟩
theorem rq_errors {N : Nat} (hN : 3000000000 ≤ N) {I0 : Nat → Int32} {M0 : Nat → Nat → Int32} {I1 : Nat → Int32} {L1 : Int64} {M1 : Nat → Nat → Int32} {x1 : Int32} {x2 : Int32} {x3 : Int32} {x4 : Int32} {o5 : Nat → Int64} {r1} {r3} (e1 : fL_errors N I0 M0 x1 x2 x3 x4 o5 = some r1) (e3 : fX12_errors N I1 L1 M1 x1 x2 x3 x4 = some r3) (k0 : KX11 I0 M0) (k1 : KX12 I1 M1) (hr : RQ I0 M0 I1 M1) : RQ r1.2.1 r1.2.2.1 r3.2.1 r3.2.2.2 := by
  have f3 := fr_fX12_errors e3
  have f1 := fr_fL_errors e1
  exact ⟨⟨hr.1.1.cg (f1.1 0 (by decide)) (f3.1 3 (by decide)) (f1.2 0 (by decide)) (f3.2 8 (by decide)), hr.1.2.1.cg (f1.2 13 (by decide)) (f3.2 7 (by decide)), hr.1.2.2.cg (f1.1 9 (by decide)) (f1.1 10 (by decide)) (fun k h1 h2 => f1.2 k ((by decide : ∀ k, k < 7 → 1 ≤ k → ¬ k ∈ fwM_L_errors) k h1 h2)) (f3.1 1 (by decide)) (f3.1 2 (by decide)) (fun k h1 => f3.2 k ((by decide : ∀ k, k < 7 → ¬ k ∈ fwM_X12_errors) k h1))⟩, trivial⟩
theorem rq_possible {N : Nat} (hN : 3000000000 ≤ N) {I0 : Nat → Int32} {M0 : Nat → Nat → Int32} {I1 : Nat → Int32} {L1 : Int64} {M1 : Nat → Nat → Int32} {x1 : Int32} {x2 : Int32} {x3 : Int32} {o4 : Nat → Int64} {r1} {r3} (e1 : fL_possible N I0 M0 x1 x2 x3 o4 = some r1) (e3 : fX12_possible N I1 L1 M1 x1 x2 x3 = some r3) (k0 : KX11 I0 M0) (k1 : KX12 I1 M1) (hr : RQ I0 M0 I1 M1) : RQ r1.2.1 r1.2.2.1 r3.2.1 r3.2.2.2 := by
  have f3 := fr_fX12_possible e3
  have f1 := fr_fL_possible e1
  exact ⟨⟨hr.1.1.cg (f1.1 0 (by decide)) (f3.1 3 (by decide)) (f1.2 0 (by decide)) (f3.2 8 (by decide)), hr.1.2.1.cg (f1.2 13 (by decide)) (f3.2 7 (by decide)), hr.1.2.2.cg (f1.1 9 (by decide)) (f1.1 10 (by decide)) (fun k h1 h2 => f1.2 k ((by decide : ∀ k, k < 7 → 1 ≤ k → ¬ k ∈ fwM_L_possible) k h1 h2)) (f3.1 1 (by decide)) (f3.1 2 (by decide)) (fun k h1 => f3.2 k ((by decide : ∀ k, k < 7 → ¬ k ∈ fwM_X12_possible) k h1))⟩, trivial⟩
theorem rq_slips {N : Nat} (hN : 3000000000 ≤ N) {I0 : Nat → Int32} {M0 : Nat → Nat → Int32} {I1 : Nat → Int32} {L1 : Int64} {M1 : Nat → Nat → Int32} {x1 : Int32} {x2 : Int32} {o3 : Nat → Int64} {r1} {r3} (e1 : fL_slips N I0 M0 x1 x2 o3 = some r1) (e3 : fX12_slips N I1 L1 M1 x1 x2 = some r3) (k0 : KX11 I0 M0) (k1 : KX12 I1 M1) (hr : RQ I0 M0 I1 M1) : RQ r1.2.1 r1.2.2.1 r3.2.1 r3.2.2.2 := by
  have f3 := fr_fX12_slips e3
  have f1 := fr_fL_slips e1
  exact ⟨⟨hr.1.1.cg (f1.1 0 (by decide)) (f3.1 3 (by decide)) (f1.2 0 (by decide)) (f3.2 8 (by decide)), hr.1.2.1.cg (f1.2 13 (by decide)) (f3.2 7 (by decide)), hr.1.2.2.cg (f1.1 9 (by decide)) (f1.1 10 (by decide)) (fun k h1 h2 => f1.2 k ((by decide : ∀ k, k < 7 → 1 ≤ k → ¬ k ∈ fwM_L_slips) k h1 h2)) (f3.1 1 (by decide)) (f3.1 2 (by decide)) (fun k h1 => f3.2 k ((by decide : ∀ k, k < 7 → ¬ k ∈ fwM_X12_slips) k h1))⟩, trivial⟩
theorem rq_handed {N : Nat} (hN : 3000000000 ≤ N) {I0 : Nat → Int32} {M0 : Nat → Nat → Int32} {I1 : Nat → Int32} {L1 : Int64} {M1 : Nat → Nat → Int32} {x1 : Int32} {x2 : Int32} {x3 : Int32} {o4 : Nat → Int64} {r1} {r3} (e1 : fL_handed N I0 M0 x1 x2 x3 o4 = some r1) (e3 : fX12_handed N I1 L1 M1 x1 x2 x3 = some r3) (k0 : KX11 I0 M0) (k1 : KX12 I1 M1) (hr : RQ I0 M0 I1 M1) : RQ r1.2.1 r1.2.2.1 r3.2.1 r3.2.2.2 := by
  have f3 := fr_fX12_handed e3
  have f1 := fr_fL_handed e1
  exact ⟨⟨hr.1.1.cg (f1.1 0 (by decide)) (f3.1 3 (by decide)) (f1.2 0 (by decide)) (f3.2 8 (by decide)), hr.1.2.1.cg (f1.2 13 (by decide)) (f3.2 7 (by decide)), hr.1.2.2.cg (f1.1 9 (by decide)) (f1.1 10 (by decide)) (fun k h1 h2 => f1.2 k ((by decide : ∀ k, k < 7 → 1 ≤ k → ¬ k ∈ fwM_L_handed) k h1 h2)) (f3.1 1 (by decide)) (f3.1 2 (by decide)) (fun k h1 => f3.2 k ((by decide : ∀ k, k < 7 → ¬ k ∈ fwM_X12_handed) k h1))⟩, trivial⟩
theorem rq_leaf {N : Nat} (hN : 3000000000 ≤ N) {I0 : Nat → Int32} {M0 : Nat → Nat → Int32} {I1 : Nat → Int32} {L1 : Int64} {M1 : Nat → Nat → Int32} {x1 : Int32} {x2 : Int32} {o3 : Nat → Int64} {r1} {r3} (e1 : fL_leaf N I0 M0 x1 x2 o3 = some r1) (e3 : fX12_leaf N I1 L1 M1 x1 x2 = some r3) (k0 : KX11 I0 M0) (k1 : KX12 I1 M1) (hr : RQ I0 M0 I1 M1) : RQ r1.2.1 r1.2.2.1 r3.2.1 r3.2.2.2 := by
  have f3 := fr_fX12_leaf e3
  have f1 := fr_fL_leaf e1
  exact ⟨⟨hr.1.1.cg (f1.1 0 (by decide)) (f3.1 3 (by decide)) (f1.2 0 (by decide)) (f3.2 8 (by decide)), hr.1.2.1.cg (f1.2 13 (by decide)) (f3.2 7 (by decide)), hr.1.2.2.cg (f1.1 9 (by decide)) (f1.1 10 (by decide)) (fun k h1 h2 => f1.2 k ((by decide : ∀ k, k < 7 → 1 ≤ k → ¬ k ∈ fwM_L_leaf) k h1 h2)) (f3.1 1 (by decide)) (f3.1 2 (by decide)) (fun k h1 => f3.2 k ((by decide : ∀ k, k < 7 → ¬ k ∈ fwM_X12_leaf) k h1))⟩, trivial⟩
theorem rq_order {N : Nat} (hN : 3000000000 ≤ N) {I0 : Nat → Int32} {M0 : Nat → Nat → Int32} {I1 : Nat → Int32} {L1 : Int64} {M1 : Nat → Nat → Int32} {x1 : Int32} {x2 : Int32} {x3 : Int32} {o4 : Nat → Int64} {r1} {r3} (e1 : fL_order N I0 M0 x1 x2 x3 o4 = some r1) (e3 : fX12_order N I1 L1 M1 x1 x2 x3 = some r3) (k0 : KX11 I0 M0) (k1 : KX12 I1 M1) (hr : RQ I0 M0 I1 M1) : RQ r1.2.1 r1.2.2.1 r3.2.1 r3.2.2.2 := by
  have f3 := fr_fX12_order e3
  have f1 := fr_fL_order e1
  exact ⟨⟨hr.1.1.cg (f1.1 0 (by decide)) (f3.1 3 (by decide)) (f1.2 0 (by decide)) (f3.2 8 (by decide)), hr.1.2.1.cg (f1.2 13 (by decide)) (f3.2 7 (by decide)), hr.1.2.2.cg (f1.1 9 (by decide)) (f1.1 10 (by decide)) (fun k h1 h2 => f1.2 k ((by decide : ∀ k, k < 7 → 1 ≤ k → ¬ k ∈ fwM_L_order) k h1 h2)) (f3.1 1 (by decide)) (f3.1 2 (by decide)) (fun k h1 => f3.2 k ((by decide : ∀ k, k < 7 → ¬ k ∈ fwM_X12_order) k h1))⟩, trivial⟩
theorem rq_same {N : Nat} (hN : 3000000000 ≤ N) {I0 : Nat → Int32} {M0 : Nat → Nat → Int32} {I1 : Nat → Int32} {L1 : Int64} {M1 : Nat → Nat → Int32} {x1 : Int32} {x2 : Int32} {x3 : Int32} {o4 : Nat → Int64} {r1} {r3} (e1 : fL_same N I0 M0 x1 x2 x3 o4 = some r1) (e3 : fX12_same N I1 L1 M1 x1 x2 x3 = some r3) (k0 : KX11 I0 M0) (k1 : KX12 I1 M1) (hr : RQ I0 M0 I1 M1) : RQ r1.2.1 r1.2.2.1 r3.2.1 r3.2.2.2 := by
  have f3 := fr_fX12_same e3
  have f1 := fr_fL_same e1
  exact ⟨⟨hr.1.1.cg (f1.1 0 (by decide)) (f3.1 3 (by decide)) (f1.2 0 (by decide)) (f3.2 8 (by decide)), hr.1.2.1.cg (f1.2 13 (by decide)) (f3.2 7 (by decide)), hr.1.2.2.cg (f1.1 9 (by decide)) (f1.1 10 (by decide)) (fun k h1 h2 => f1.2 k ((by decide : ∀ k, k < 7 → 1 ≤ k → ¬ k ∈ fwM_L_same) k h1 h2)) (f3.1 1 (by decide)) (f3.1 2 (by decide)) (fun k h1 => f3.2 k ((by decide : ∀ k, k < 7 → ¬ k ∈ fwM_X12_same) k h1))⟩, trivial⟩
theorem rq_births {N : Nat} (hN : 3000000000 ≤ N) {I0 : Nat → Int32} {M0 : Nat → Nat → Int32} {I1 : Nat → Int32} {L1 : Int64} {M1 : Nat → Nat → Int32} {x1 : Int32} {x2 : Int32} {o3 : Nat → Int64} {r1} {r3} (e1 : fL_births N I0 M0 x1 x2 o3 = some r1) (e3 : fX12_births N I1 L1 M1 x1 x2 = some r3) (k0 : KX11 I0 M0) (k1 : KX12 I1 M1) (hr : RQ I0 M0 I1 M1) : RQ r1.2.1 r1.2.2.1 r3.2.1 r3.2.2.2 := by
  have f3 := fr_fX12_births e3
  have f1 := fr_fL_births e1
  exact ⟨⟨hr.1.1.cg (f1.1 0 (by decide)) (f3.1 3 (by decide)) (f1.2 0 (by decide)) (f3.2 8 (by decide)), hr.1.2.1.cg (f1.2 13 (by decide)) (f3.2 7 (by decide)), hr.1.2.2.cg (f1.1 9 (by decide)) (f1.1 10 (by decide)) (fun k h1 h2 => f1.2 k ((by decide : ∀ k, k < 7 → 1 ≤ k → ¬ k ∈ fwM_L_births) k h1 h2)) (f3.1 1 (by decide)) (f3.1 2 (by decide)) (fun k h1 => f3.2 k ((by decide : ∀ k, k < 7 → ¬ k ∈ fwM_X12_births) k h1))⟩, trivial⟩
theorem rq_tree {N : Nat} (hN : 3000000000 ≤ N) {I0 : Nat → Int32} {M0 : Nat → Nat → Int32} {I1 : Nat → Int32} {L1 : Int64} {M1 : Nat → Nat → Int32} {r1} {r2} (e1 : fX11_tree N I0 M0  = some r1) (e3 : fX12_tree N I1 L1 M1  = some r2) (k0 : KX11 I0 M0) (k1 : KX12 I1 M1) (hr : RQ I0 M0 I1 M1) : RQ r1.2.1 r1.2.2 r2.2.1 r2.2.2.2 := by
  have f3 := fr_fX12_tree e3
  have f1 := fr_fX11_tree e1
  exact ⟨⟨hr.1.1.cg (f1.1 0 (by decide)) (f3.1 3 (by decide)) (f1.2 0 (by decide)) (f3.2 8 (by decide)), hr.1.2.1.cg (f1.2 13 (by decide)) (f3.2 7 (by decide)), hr.1.2.2.cg (f1.1 9 (by decide)) (f1.1 10 (by decide)) (fun k h1 h2 => f1.2 k ((by decide : ∀ k, k < 7 → 1 ≤ k → ¬ k ∈ fwM_X11_tree) k h1 h2)) (f3.1 1 (by decide)) (f3.1 2 (by decide)) (fun k h1 => f3.2 k ((by decide : ∀ k, k < 7 → ¬ k ∈ fwM_X12_tree) k h1))⟩, trivial⟩
theorem rq_whence {N : Nat} (hN : 3000000000 ≤ N) {I0 : Nat → Int32} {M0 : Nat → Nat → Int32} {I1 : Nat → Int32} {L1 : Int64} {M1 : Nat → Nat → Int32} {x1 : Int32} {o2 : Nat → Int64} {r1} {r3} (e1 : fL_whence N I0 M0 x1 o2 = some r1) (e3 : fX12_whence N I1 L1 M1 x1 = some r3) (k0 : KX11 I0 M0) (k1 : KX12 I1 M1) (hr : RQ I0 M0 I1 M1) : RQ r1.2.1 r1.2.2.1 r3.2.1 r3.2.2.2 := by
  have f3 := fr_fX12_whence e3
  have f1 := fr_fL_whence e1
  exact ⟨⟨hr.1.1.cg (f1.1 0 (by decide)) (f3.1 3 (by decide)) (f1.2 0 (by decide)) (f3.2 8 (by decide)), hr.1.2.1.cg (f1.2 13 (by decide)) (f3.2 7 (by decide)), hr.1.2.2.cg (f1.1 9 (by decide)) (f1.1 10 (by decide)) (fun k h1 h2 => f1.2 k ((by decide : ∀ k, k < 7 → 1 ≤ k → ¬ k ∈ fwM_L_whence) k h1 h2)) (f3.1 1 (by decide)) (f3.1 2 (by decide)) (fun k h1 => f3.2 k ((by decide : ∀ k, k < 7 → ¬ k ∈ fwM_X12_whence) k h1))⟩, trivial⟩
theorem rq_life {N : Nat} (hN : 3000000000 ≤ N) {I0 : Nat → Int32} {M0 : Nat → Nat → Int32} {I1 : Nat → Int32} {L1 : Int64} {M1 : Nat → Nat → Int32} {x1 : Int32} {x2 : Int32} {x3 : Int32} {o4 : Nat → Int64} {r1} {r3} (e1 : fL_life N I0 M0 x1 x2 x3 o4 = some r1) (e3 : fX12_life N I1 L1 M1 x1 x2 x3 = some r3) (k0 : KX11 I0 M0) (k1 : KX12 I1 M1) (hr : RQ I0 M0 I1 M1) : RQ r1.2.1 r1.2.2.1 r3.2.1 r3.2.2.2 := by
  have f3 := fr_fX12_life e3
  have f1 := fr_fL_life e1
  exact ⟨⟨hr.1.1.cg (f1.1 0 (by decide)) (f3.1 3 (by decide)) (f1.2 0 (by decide)) (f3.2 8 (by decide)), hr.1.2.1.cg (f1.2 13 (by decide)) (f3.2 7 (by decide)), hr.1.2.2.cg (f1.1 9 (by decide)) (f1.1 10 (by decide)) (fun k h1 h2 => f1.2 k ((by decide : ∀ k, k < 7 → 1 ≤ k → ¬ k ∈ fwM_L_life) k h1 h2)) (f3.1 1 (by decide)) (f3.1 2 (by decide)) (fun k h1 => f3.2 k ((by decide : ∀ k, k < 7 → ¬ k ∈ fwM_X12_life) k h1))⟩, trivial⟩
theorem rq_fate {N : Nat} (hN : 3000000000 ≤ N) {I0 : Nat → Int32} {M0 : Nat → Nat → Int32} {I1 : Nat → Int32} {L1 : Int64} {M1 : Nat → Nat → Int32} {x1 : Int32} {x2 : Int32} {o3 : Nat → Int64} {r1} {r3} (e1 : fL_fate N I0 M0 x1 x2 o3 = some r1) (e3 : fX12_fate N I1 L1 M1 x1 x2 = some r3) (k0 : KX11 I0 M0) (k1 : KX12 I1 M1) (hr : RQ I0 M0 I1 M1) : RQ r1.2.1 r1.2.2.1 r3.2.1 r3.2.2.2 := by
  have f3 := fr_fX12_fate e3
  have f1 := fr_fL_fate e1
  exact ⟨⟨hr.1.1.cg (f1.1 0 (by decide)) (f3.1 3 (by decide)) (f1.2 0 (by decide)) (f3.2 8 (by decide)), hr.1.2.1.cg (f1.2 13 (by decide)) (f3.2 7 (by decide)), hr.1.2.2.cg (f1.1 9 (by decide)) (f1.1 10 (by decide)) (fun k h1 h2 => f1.2 k ((by decide : ∀ k, k < 7 → 1 ≤ k → ¬ k ∈ fwM_L_fate) k h1 h2)) (f3.1 1 (by decide)) (f3.1 2 (by decide)) (fun k h1 => f3.2 k ((by decide : ∀ k, k < 7 → ¬ k ∈ fwM_X12_fate) k h1))⟩, trivial⟩
theorem rq_fates {N : Nat} (hN : 3000000000 ≤ N) {I0 : Nat → Int32} {M0 : Nat → Nat → Int32} {I1 : Nat → Int32} {L1 : Int64} {M1 : Nat → Nat → Int32} {x1 : Int32} {o2 : Nat → Int64} {r1} {r3} (e1 : fL_fates N I0 M0 x1 o2 = some r1) (e3 : fX12_fates N I1 L1 M1 x1 = some r3) (k0 : KX11 I0 M0) (k1 : KX12 I1 M1) (hr : RQ I0 M0 I1 M1) : RQ r1.2.1 r1.2.2.1 r3.2.1 r3.2.2.2 := by
  have f3 := fr_fX12_fates e3
  have f1 := fr_fL_fates e1
  exact ⟨⟨hr.1.1.cg (f1.1 0 (by decide)) (f3.1 3 (by decide)) (f1.2 0 (by decide)) (f3.2 8 (by decide)), hr.1.2.1.cg (f1.2 13 (by decide)) (f3.2 7 (by decide)), hr.1.2.2.cg (f1.1 9 (by decide)) (f1.1 10 (by decide)) (fun k h1 h2 => f1.2 k ((by decide : ∀ k, k < 7 → 1 ≤ k → ¬ k ∈ fwM_L_fates) k h1 h2)) (f3.1 1 (by decide)) (f3.1 2 (by decide)) (fun k h1 => f3.2 k ((by decide : ∀ k, k < 7 → ¬ k ∈ fwM_X12_fates) k h1))⟩, trivial⟩
theorem rq_hits {N : Nat} (hN : 3000000000 ≤ N) {I0 : Nat → Int32} {M0 : Nat → Nat → Int32} {I1 : Nat → Int32} {L1 : Int64} {M1 : Nat → Nat → Int32} {x1 : Int32} {x2 : Int32} {o3 : Nat → Int64} {r1} {r3} (e1 : fL_hits N I0 M0 x1 x2 o3 = some r1) (e3 : fX12_hits N I1 L1 M1 x1 x2 = some r3) (k0 : KX11 I0 M0) (k1 : KX12 I1 M1) (hr : RQ I0 M0 I1 M1) : RQ r1.2.1 r1.2.2.1 r3.2.1 r3.2.2.2 := by
  have f3 := fr_fX12_hits e3
  have f1 := fr_fL_hits e1
  exact ⟨⟨hr.1.1.cg (f1.1 0 (by decide)) (f3.1 3 (by decide)) (f1.2 0 (by decide)) (f3.2 8 (by decide)), hr.1.2.1.cg (f1.2 13 (by decide)) (f3.2 7 (by decide)), hr.1.2.2.cg (f1.1 9 (by decide)) (f1.1 10 (by decide)) (fun k h1 h2 => f1.2 k ((by decide : ∀ k, k < 7 → 1 ≤ k → ¬ k ∈ fwM_L_hits) k h1 h2)) (f3.1 1 (by decide)) (f3.1 2 (by decide)) (fun k h1 => f3.2 k ((by decide : ∀ k, k < 7 → ¬ k ∈ fwM_X12_hits) k h1))⟩, trivial⟩

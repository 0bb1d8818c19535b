/-! SEARCH, image, LEAVES, outcomes: relations and answers -/
noncomputable def QSR (I : Nat → Int32) (M : Nat → Nat → Int32) (J : Nat → Int32) (K : Nat → Nat → Int32) : Prop := I 27 = J 16 ∧ (¬ I 27 = 0 → QS (wb_sh I 27) (M 18) (K 18))
noncomputable def QIR (I : Nat → Int32) (M : Nat → Nat → Int32) (J : Nat → Int32) (K : Nat → Nat → Int32) : Prop := I 34 = J 17 ∧ (¬ I 34 = 0 → QS (wb_sh I 34) (M 19) (K 19))
noncomputable def QL (I : Nat → Int32) (M : Nat → Nat → Int32) (J : Nat → Int32) (K : Nat → Nat → Int32) : Prop := ∀ b : Nat, b < 6 → M 24 b = K 27 b ∧ ∀ i : Nat, (i : Int) < (K 27 b).toInt → M 23 (20 * b + i) = K 28 (20 * b + i)
noncomputable def QO (I : Nat → Int32) (M : Nat → Nat → Int32) (J : Nat → Int32) (K : Nat → Nat → Int32) : Prop := OR M K
theorem QS.cg {i i' m m' k : Nat → Int32} (h : QS i m k) (a : ∀ j, j < 7 → i' j = i j) (b : m' 0 = m 0) : QS i' m' k := by
  unfold QS at h ⊢
  rw [a 1 (by omega), a 2 (by omega), a 3 (by omega), a 4 (by omega), a 5 (by omega), a 6 (by omega), b]
  exact h
theorem QSR.cg {I I' J J' : Nat → Int32} {M M' K K' : Nat → Nat → Int32} (h : QSR I M J K) (a : ∀ j, j < 34 → 27 ≤ j → I' j = I j) (c : M' 18 = M 18) (d : J' 16 = J 16) (e : K' 18 = K 18) : QSR I' M' J' K' := by
  unfold QSR at h ⊢
  rw [a 27 (by omega) (by omega), c, d, e]
  exact ⟨h.1, fun z => (h.2 z).cg (fun j hj => a (j + 27) (by omega) (by omega)) rfl⟩
theorem QIR.cg {I I' J J' : Nat → Int32} {M M' K K' : Nat → Nat → Int32} (h : QIR I M J K) (a : ∀ j, j < 41 → 34 ≤ j → I' j = I j) (c : M' 19 = M 19) (d : J' 17 = J 17) (e : K' 19 = K 19) : QIR I' M' J' K' := by
  unfold QIR at h ⊢
  rw [a 34 (by omega) (by omega), c, d, e]
  exact ⟨h.1, fun z => (h.2 z).cg (fun j hj => a (j + 34) (by omega) (by omega)) rfl⟩
theorem QL.cg {I I' J J' : Nat → Int32} {M M' K K' : Nat → Nat → Int32} (h : QL I M J K) (a : M' 23 = M 23) (b : M' 24 = M 24) (c : K' 27 = K 27) (d : K' 28 = K 28) : QL I' M' J' K' := by
  unfold QL at h ⊢
  rw [a, b, c, d]
  exact h
theorem QO.cg {I I' J J' : Nat → Int32} {M M' K K' : Nat → Nat → Int32} (h : QO I M J K) (a : M' 28 = M 28) (b : M' 29 = M 29) (c : M' 30 = M 30) (d : K' 32 = K 32) (e : K' 33 = K 33) (f : K' 34 = K 34) : QO I' M' J' K' := by
  unfold QO OR at h ⊢
  rw [a, b, c, d, e, f]
  exact h
/-! DAYS that are kept -/
/-- an image of the SEARCH -/
theorem cp8 {N : Nat} {I I2 : Nat → Int32} {M M2 : Nat → Nat → Int32} {r : (Nat → Int32) × (Nat → Nat → Int32)} (h : fX8_copyFrom N I M I2 M2 = some r) : (∀ j, j < 7 → r.1 j = I2 j) ∧ ∀ j, j < 20 → r.2 0 j = M2 0 j := by
  unfold fX8_copyFrom at h
  obtain ⟨-, h⟩ := wb_n h
  obtain ⟨a1, e1, h⟩ := wb_v h
  obtain ⟨a2, e2, h⟩ := wb_v h
  obtain ⟨a3, e3, h⟩ := wb_v h
  obtain ⟨a4, e4, h⟩ := wb_v h
  obtain ⟨a5, e5, h⟩ := wb_v h
  obtain ⟨a6, e6, h⟩ := wb_v h
  obtain ⟨a7, e7, h⟩ := wb_v h
  obtain ⟨-, h⟩ := wb_n h
  obtain ⟨m8, e8, h⟩ := wb_v h
  have h := Option.some.inj h
  rw [← h]
  refine ⟨fun j hj => ?_, fun j hj => ?_⟩
  · show a7 j = I2 j
    rw [e7, e6, e5, e4, e3, e2, e1]
    rcases (by omega : j = 0 ∨ j = 1 ∨ j = 2 ∨ j = 3 ∨ j = 4 ∨ j = 5 ∨ j = 6) with z | z | z | z | z | z | z <;> subst z <;> rfl
  · show m8 0 j = M2 0 j
    rw [e8]
    show va_cpy (M2 0) (M 0) 0 0 20 j = _
    exact cpy0 hj
/-- a SEARCH begins -/
theorem hx_seek {N : Nat} {I0 I1 : Nat → Int32} {M0 M1 : Nat → Nat → Int32} {L1 : Int64} {x1 x2 x3 x4 : Int32} {r : Int32 × (Nat → Int32) × (Nat → Nat → Int32)} {s : (Nat → Int32) × Int64 × (Nat → Nat → Int32)} (e1 : fL_seek N I0 M0 x1 x2 x3 x4 = some r) (e3 : fX12_seek N I1 L1 M1 x1 x2 x3 x4 = some s) (hs : QSR I0 M0 I1 M1) : QSR r.2.1 r.2.2 s.1 s.2.2 := by
  unfold fL_seek at e1
  unfold fX12_seek at e3
  obtain ⟨s10, g10, g⟩ := wb_b e3
  have same : fX11_seek N I0 M0 x1 x2 x3 x4 = some (.inl 1) → r.2.1 = I0 ∧ r.2.2 = M0 := by
    intro e
    rcases fr_hp e1 with ⟨k, e', h⟩ | ⟨a, e', h⟩
    · obtain ⟨c, h⟩ := wb_y h
      rw [← Option.some.inj h]
      exact ⟨rfl, rfl⟩
    · rw [e] at e'
      cases e'
  have cj : ∀ (b : Int32), (¬ b = 0 → BW x1 x2 ∧ (0 ≤ x3.toInt ∧ x3.toInt ≤ 3) ∧ 0 ≤ x4.toInt ∧ x4.toInt ≤ 1000000) → fX11_seek_J29 N x1 x2 x3 x4 I0 M0 ((20 : Int32) * x1 + x2) b = fX11_seek N I0 M0 x1 x2 x3 x4 → fX12_seek_J35 N x1 x2 x3 x4 (upd I1 0 0) L1 M1 b = some s → QSR r.2.1 r.2.2 s.1 s.2.2 := by
    intro b hb e g
    unfold fX12_seek_J35 at g
    obtain ⟨r1, f1, g⟩ := wb_b g
    rcases rt12 (J := upd I1 0 0) rfl (by decide) f1 with ⟨z, y⟩ | ⟨z, y⟩
    · subst y
      have g := wb_f (c := (1 : Int32) = 0) (by decide) g
      obtain ⟨J2, eJ2, g⟩ := wb_v g
      rw [k12_0, k12_1, k12_2, k12_3, k12_4, k12_5, k12_6] at g
      obtain ⟨-, g⟩ := wb_n g
      obtain ⟨m3, e3, g⟩ := wb_v g
      obtain ⟨-, g⟩ := wb_n g
      obtain ⟨m4, e4, g⟩ := wb_v g
      obtain ⟨-, g⟩ := wb_n g
      obtain ⟨m5, e5, g⟩ := wb_v g
      obtain ⟨-, g⟩ := wb_n g
      obtain ⟨m6, e6, g⟩ := wb_v g
      obtain ⟨-, g⟩ := wb_n g
      obtain ⟨m7, e7, g⟩ := wb_v g
      obtain ⟨-, g⟩ := wb_n g
      obtain ⟨m8, e8, g⟩ := wb_v g
      obtain ⟨-, g⟩ := wb_n g
      obtain ⟨m9, e9, g⟩ := wb_v g
      have g := Option.some.inj g
      obtain ⟨⟨b1, b2⟩, b3, b4⟩ := hb z
      have e2 := e.symm
      unfold fX11_seek_J29 at e2
      rcases fr_hp e1 with ⟨k, e', h⟩ | ⟨a, e', h⟩
      · rw [e2] at e'
        rcases nd11 e' with ⟨w, -⟩ | ⟨-, h2⟩
        · exact absurd w z
        · obtain ⟨R, hR, -⟩ := oki h2
          cases hR
      · rw [e2] at e'
        rcases nd11 e' with ⟨w, -⟩ | ⟨-, h2⟩
        · exact absurd w z
        · obtain ⟨R, hR, h2⟩ := oki h2
          have hR := Sum.inr.inj hR
          subst hR
          obtain ⟨r2, f2, h2⟩ := wb_b h2
          obtain ⟨I3, eI, h2⟩ := wb_v h2
          obtain ⟨M4, eM, h2⟩ := wb_v h2
          obtain ⟨p0, p1, p2, p3, p4, p5, p6, p7⟩ := bg8 f2
          have i3 : ∀ j, j < 7 → I3 (j + 27) = r2.1 j := by
            intro j hj
            rw [eI, wbi_in (by omega) (by omega), Nat.add_sub_cancel]
          have t20 : (20 : Int32).toInt = 20 := by decide
          have m1 := ia_mul 20 20 t20 x1 (by omega) (by omega)
          have s1 := ia_add ((20 : Int32) * x1) x2 (by omega) (by omega)
          rw [← Option.some.inj h, ← Option.some.inj h2, ← g]
          refine ⟨?_, fun _ => ⟨?_, ?_, ?_, ?_, ?_, ?_, Or.inl ⟨?_, ?_, ?_, ?_, ?_, ?_, ?_⟩⟩⟩
          · show I3 27 = J2 16
            rw [show I3 27 = r2.1 0 from i3 0 (by omega), p0, eJ2]
            rfl
          · show I3 28 = m9 18 0
            rw [show I3 28 = r2.1 1 from i3 1 (by omega), p1, e9, e8, e7, e6, e5, e4, e3]
            rfl
          · show I3 29 = m9 18 1
            rw [show I3 29 = r2.1 2 from i3 2 (by omega), p2, e9, e8, e7, e6, e5, e4, e3]
            rfl
          · show I3 30 = m9 18 2
            rw [show I3 30 = r2.1 3 from i3 3 (by omega), p3, e9, e8, e7, e6, e5, e4, e3]
            rfl
          · show 0 ≤ (I3 28).toInt ∧ (I3 28).toInt ≤ 119
            rw [show I3 28 = r2.1 1 from i3 1 (by omega), p1]
            omega
          · show 0 ≤ (I3 29).toInt ∧ (I3 29).toInt ≤ 3
            rw [show I3 29 = r2.1 2 from i3 2 (by omega), p2]
            exact b3
          · show 0 ≤ (I3 30).toInt ∧ (I3 30).toInt ≤ 1000001
            rw [show I3 30 = r2.1 3 from i3 3 (by omega), p3]
            omega
          · show I3 31 = 1000
            rw [show I3 31 = r2.1 4 from i3 4 (by omega), p4]
          · show I3 32 = 0
            rw [show I3 32 = r2.1 5 from i3 5 (by omega), p5]
          · show I3 33 = -1
            rw [show I3 33 = r2.1 6 from i3 6 (by omega), p6]
          · rw [e9, e8, e7, e6, e5, e4, e3]; rfl
          · rw [e9, e8, e7, e6, e5, e4, e3]; rfl
          · rw [e9, e8, e7, e6, e5, e4, e3]; rfl
          · rw [e9, e8, e7, e6, e5, e4, e3]; rfl
    · subst y
      have g := wb_t (c := (0 : Int32) = 0) rfl g
      have e2 := e.symm
      unfold fX11_seek_J29 at e2
      rw [z, need0] at e2
      obtain ⟨q1, q2⟩ := same e2
      rw [q1, q2, ← Option.some.inj g]
      exact hs
  rcases iw12 g10 with ⟨hb, q⟩ | ⟨hb, q⟩
  · subst q
    have g := wb_f (c := (1 : Int32) = 0) (by decide) g
    have cn : fX11_numberOf N x1 x2 = some (.inr ((20 : Int32) * x1 + x2)) := by
      rcases fr_hp e1 with ⟨k, e', h⟩ | ⟨a, e', h⟩
      · unfold fX11_seek at e'
        rcases xbi e' with ⟨k2, f, -⟩ | ⟨n, f, -⟩
        · rcases nb11 f with ⟨-, z⟩ | ⟨z, -⟩
          · cases z
          · exact absurd hb z
        · rcases nb11 f with ⟨-, z⟩ | ⟨z, -⟩
          · rw [f, z]
          · exact absurd hb z
      · unfold fX11_seek at e'
        rcases xbi e' with ⟨k2, f, -⟩ | ⟨n, f, -⟩
        · rcases nb11 f with ⟨-, z⟩ | ⟨z, -⟩
          · cases z
          · exact absurd hb z
        · rcases nb11 f with ⟨-, z⟩ | ⟨z, -⟩
          · rw [f, z]
          · exact absurd hb z
    obtain ⟨s11, g11, g⟩ := wb_b g
    have w11 : fX11_within N x3 0 3 = some s11 := by rw [wn11, ← g11, wn12]
    rcases ck_within12 0 3 (by decide) (by decide) g11 with ⟨q, c⟩ | ⟨q, c⟩
    · have g := wb_f (by rw [q]; decide) g
      obtain ⟨s12, g12, g⟩ := wb_b g
      have w12 : fX11_isDay N x4 = some s12 := by
        unfold fX11_isDay
        rw [wn11, ← wn12 (N := N), g12]
        show (if s12 &&& 1 = s12 then some s12 else none) = some s12
        rcases ck_within12 0 1000000 (by decide) (by decide) g12 with ⟨q, -⟩ | ⟨q, -⟩ <;> rw [q] <;> rfl
      rcases ck_within12 0 1000000 (by decide) (by decide) g12 with ⟨q2, c2⟩ | ⟨q2, c2⟩
      · have g := wb_f (by rw [q2]; decide) g
        refine cj 1 (fun _ => ⟨hb, c, c2⟩) ?_ g
        unfold fX11_seek
        rw [cn]
        show _ = (fX11_within N x3 0 3).bind _
        rw [w11, Option.bind_some, if_neg (by rw [q]; decide), w12, Option.bind_some, if_neg (by rw [q2]; decide)]
      · have g := wb_t q2 g
        unfold fX12_seek_J34 at g
        refine cj 0 (fun z => absurd rfl z) ?_ g
        unfold fX11_seek
        rw [cn]
        show _ = (fX11_within N x3 0 3).bind _
        rw [w11, Option.bind_some, if_neg (by rw [q]; decide), w12, Option.bind_some, if_pos q2]
        rfl
    · have g := wb_t q g
      unfold fX12_seek_J34 at g
      refine cj 0 (fun z => absurd rfl z) ?_ g
      unfold fX11_seek
      rw [cn]
      show _ = (fX11_within N x3 0 3).bind _
      rw [w11, Option.bind_some, if_pos q]
      rfl
  · subst q
    have g := Option.some.inj (wb_t (c := (0 : Int32) = 0) rfl g)
    have e2 : fX11_seek N I0 M0 x1 x2 x3 x4 = some (.inl 1) := by
      rcases fr_hp e1 with ⟨k, e', h⟩ | ⟨a, e', h⟩
      · have e'' := e'
        unfold fX11_seek at e''
        rcases xbi e'' with ⟨k2, f, f2⟩ | ⟨n, f, -⟩
        · rcases nb11 f with ⟨z, -⟩ | ⟨-, z⟩
          · exact absurd z hb
          · rw [e', f2, Sum.inl.inj z]
        · rcases nb11 f with ⟨z, -⟩ | ⟨-, z⟩
          · exact absurd z hb
          · cases z
      · unfold fX11_seek at e'
        rcases xbi e' with ⟨k2, f, f2⟩ | ⟨n, f, -⟩
        · cases f2
        · rcases nb11 f with ⟨z, -⟩ | ⟨-, z⟩
          · exact absurd z hb
          · cases z
    obtain ⟨q1, q2⟩ := same e2
    rw [q1, q2, ← g]
    exact hs
/-! LEAVES -/
/-! how many -/

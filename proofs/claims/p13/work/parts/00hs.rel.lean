/-! answers alike -/
theorem gl1 {x : Option (Nat ⊕ Int32)} {I : Nat → Int32} {M : Nat → Nat → Int32} {o : Nat → Int64} {r : Int32 × (Nat → Int32) × (Nat → Nat → Int32) × (Nat → Int64)} (h : wb_hp x (fun k => if k = 1 then some ((1 : Int32), I, M, o) else none) (fun r => (some (vp_updL o ((0 : Int32)).toNatClampNeg r.toInt64)).bind fun o1 => some ((0 : Int32), I, M, o1)) = some r) : (x = some (.inl 1) ∧ r.1 = 1) ∨ ∃ a, x = some (.inr a) ∧ r.1 = 0 ∧ r.2.2.2 0 = a.toInt64 := by
  rcases fr_hp h with ⟨k, e, h⟩ | ⟨a, e, h⟩
  · left
    obtain ⟨c, h⟩ := wb_y h
    subst c
    have h := Option.some.inj h
    subst h
    exact ⟨e, rfl⟩
  · right
    obtain ⟨o1, eo, h⟩ := wb_v h
    have h := Option.some.inj h
    subst h
    exact ⟨a, e, rfl, by show o1 0 = _; rw [eo]; rfl⟩
theorem nd11 {N : Nat} {x : Int32} {α : Type} {f : Unit → Option (Nat ⊕ α)} {r : Nat ⊕ α} (h : wb_xb (fX11_need N x) f = some r) : (x = 0 ∧ r = .inl 1) ∨ (¬ x = 0 ∧ f () = some r) := by
  by_cases hx : x = 0
  · left
    refine ⟨hx, ?_⟩
    subst hx
    rw [need0] at h
    exact (Option.some.inj h).symm
  · right
    refine ⟨hx, ?_⟩
    have e : fX11_need N x = some (.inr ()) := by unfold fX11_need; rw [if_neg hx]; rfl
    rw [e] at h
    exact h
/-- an ENTRY of a WHEEL, read by both -/
theorem at_eq {N N2 : Nat} {I J : Nat → Int32} {L : Int64} {M K : Nat → Nat → Int32} {n e a b : Int32} (er : EnR M K) (h : fX1_degreeOf N I (wb_sh M 13) n e = some a) (g : fX12_at N2 J L K n e = some b) : a = b := by
  unfold fX1_degreeOf at h
  unfold fX12_at at g
  obtain ⟨c, h⟩ := wb_n h
  obtain ⟨-, g⟩ := wb_n g
  have h := Option.some.inj h
  have g := Option.some.inj g
  rw [← h, ← g]
  exact er _ (Nat.lt_of_not_le (fun z => c (Or.inr z)))
theorem an_entry {N : Nat} (hN : 3000000000 ≤ N) {I0 I1 : Nat → Int32} {M0 M1 : Nat → Nat → Int32} {L1 : Int64} {b w e : Int32} {o : Nat → Int64} {r : Int32 × (Nat → Int32) × (Nat → Nat → Int32) × (Nat → Int64)} {s : Int32 × (Nat → Int32) × Int64 × (Nat → Nat → Int32)} (k0 : KX11 I0 M0) (k1 : KX12 I1 M1) (e1 : fL_entry N I0 M0 b w e o = some r) (e3 : fX12_entry N I1 L1 M1 b w e = some s) (hr : RR I0 M0 I1 M1) : s.2.1 0 = r.1 ∧ (r.1 = 0 → r.2.2.2 0 = s.1.toInt64) := by
  unfold fL_entry at e1
  unfold fX12_entry at e3
  have c := wI_c e 0 21
  obtain ⟨s1, f1, e3⟩ := wb_b e3
  have key : (fX11_entry N I0 M0 b w e = some (.inl 1) → s.2.1 0 = 1) ∧ ∀ a, fX11_entry N I0 M0 b w e = some (.inr a) → s.2.1 0 = 0 ∧ a = s.1 := by
    unfold fX11_entry
    rcases iw12 f1 with ⟨hb, q⟩ | ⟨hb, q⟩
    · subst q
      have e3 := wb_f (c := (1 : Int32) = 0) (by decide) e3
      rw [wn12] at e3
      obtain ⟨s2, f2, e3⟩ := wb_v e3
      obtain ⟨s3, f3, e3⟩ := wb_b e3
      refine ⟨fun h => ?_, fun a h => ?_⟩
      · rcases xbi h with ⟨k, h1, -⟩ | ⟨n, h1, h⟩
        · rcases nb11 h1 with ⟨-, z⟩ | ⟨z, -⟩
          · cases z
          · exact absurd hb z
        · rw [wn11] at h
          obtain ⟨x, ex, h⟩ := wb_v h
          rcases nd11 h with ⟨z, -⟩ | ⟨-, h⟩
          · rcases rt12 (J := upd I1 0 0) rfl (by decide) f3 with ⟨y, -⟩ | ⟨-, y⟩
            · exact absurd (f2.trans (ex.symm.trans z)) y
            · subst y
              have e3 := Option.some.inj (wb_t (c := (0 : Int32) = 0) rfl e3)
              subst e3
              rfl
          · obtain ⟨R, hR, -⟩ := oki h
            cases hR
      · rcases xbi h with ⟨k, -, z⟩ | ⟨n, h1, h⟩
        · cases z
        · rcases nb11 h1 with ⟨-, z⟩ | ⟨-, z⟩
          · have z := Sum.inr.inj z
            subst z
            rw [wn11] at h
            obtain ⟨x, ex, h⟩ := wb_v h
            rcases nd11 h with ⟨-, z⟩ | ⟨z, h⟩
            · cases z
            · obtain ⟨R, hR, h⟩ := oki h
              have hR := Sum.inr.inj hR
              subst hR
              rcases rt12 (J := upd I1 0 0) rfl (by decide) f3 with ⟨-, y⟩ | ⟨y, -⟩
              · subst y
                have e3 := wb_f (c := (1 : Int32) = 0) (by decide) e3
                obtain ⟨s4, f4, e3⟩ := wb_b e3
                have e3 := Option.some.inj e3
                subst e3
                obtain ⟨a4, h4, h⟩ := wb_b h
                have h := Option.some.inj h
                subst h
                exact ⟨rfl, at_eq hr.2.1 h4 f4⟩
              · exact absurd (ex.trans (f2.symm.trans y)) z
          · cases z
    · subst q
      have e3 := Option.some.inj (wb_t (c := (0 : Int32) = 0) rfl e3)
      subst e3
      refine ⟨fun _ => rfl, fun a h => ?_⟩
      rcases xbi h with ⟨k, -, z⟩ | ⟨n, h1, -⟩
      · cases z
      · rcases nb11 h1 with ⟨z, -⟩ | ⟨-, z⟩
        · exact absurd z hb
        · cases z
  rcases gl1 e1 with ⟨x, y⟩ | ⟨a, x, y, z⟩
  · exact ⟨(key.1 x).trans y.symm, fun q => absurd (y.symm.trans q) (by decide)⟩
  · obtain ⟨k1, k2⟩ := key.2 a x
    exact ⟨k1.trans y.symm, fun _ => by rw [z, k2]⟩
theorem an_wheel {N : Nat} (hN : 3000000000 ≤ N) {I0 I1 : Nat → Int32} {M0 M1 : Nat → Nat → Int32} {L1 : Int64} {a b c : Int32} {o : Nat → Int64} {r : Int32 × (Nat → Int32) × (Nat → Nat → Int32) × (Nat → Int64)} {s : Int32 × (Nat → Int32) × Int64 × (Nat → Nat → Int32)} (k0 : KX11 I0 M0) (k1 : KX12 I1 M1) (e1 : fL_wheel N I0 M0 a b c o = some r) (e3 : fX12_wheel N I1 L1 M1 a b c = some s) (hr : RR I0 M0 I1 M1) : s.2.1 0 = r.1 ∧ (r.1 = 0 → r.2.2.2 0 = s.1.toInt64) := (hs_wheel hN e1 e3 hr).2.2
theorem an_feed {N : Nat} (hN : 3000000000 ≤ N) {I0 I1 : Nat → Int32} {M0 M1 : Nat → Nat → Int32} {L1 : Int64} {a b c d e : Int32} {r : Int32 × (Nat → Int32) × (Nat → Nat → Int32)} {s : Int32 × (Nat → Int32) × Int64 × (Nat → Nat → Int32)} (k0 : KX11 I0 M0) (k1 : KX12 I1 M1) (e1 : fX11_feed N I0 M0 a b c d e = some r) (e3 : fX12_feed N I1 L1 M1 a b c d e = some s) (hr : RR I0 M0 I1 M1) : r.1 = s.1 := (fed hr.1 e1 e3).1

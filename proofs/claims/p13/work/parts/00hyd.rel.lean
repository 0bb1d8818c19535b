/-! answers of both, from what the class's method and the reference's say -/
theorem al11 {N : Nat} {x : Int32} {α : Type} {f : Unit → Option (Nat ⊕ α)} {r : Nat ⊕ α} (h : wb_xb (fX11_allow N x) f = some r) : (x = 0 ∧ r = .inl 2) ∨ (¬ x = 0 ∧ f () = some r) := by
  by_cases hx : x = 0
  · left
    refine ⟨hx, ?_⟩
    subst hx
    rw [alow0] at h
    exact (Option.some.inj h).symm
  · right
    refine ⟨hx, ?_⟩
    have e : fX11_allow N x = some (.inr ()) := by unfold fX11_allow; rw [if_neg hx]; rfl
    rw [e] at h
    exact h
theorem fin_1n {x : Option (Nat ⊕ Int32)} {I : Nat → Int32} {M : Nat → Nat → Int32} {o : Nat → Int64} {r : Int32 × (Nat → Int32) × (Nat → Nat → Int32) × (Nat → Int64)} {j s : Int32} (h : wb_hp x (fun k => if k = 1 then some ((1 : Int32), I, M, o) else none) (fun r => (some (vp_updL o ((0 : Int32)).toNatClampNeg r.toInt64)).bind fun o1 => some ((0 : Int32), I, M, o1)) = some r) (key : ∀ q, x = some q → (q = .inl 1 ∧ j = 1) ∨ ∃ a, q = .inr a ∧ j = 0 ∧ a = s) : j = r.1 ∧ (r.1 = 0 → r.2.2.2 0 = s.toInt64) := by
  rcases fr_hp h with ⟨k, e, h⟩ | ⟨a, e, h⟩
  · obtain ⟨c, h⟩ := wb_y h
    have h := Option.some.inj h
    rcases key _ e with ⟨-, w⟩ | ⟨a, w, -⟩
    · rw [← h]
      exact ⟨w, fun z => absurd z (by show ¬ (1 : Int32) = 0; decide)⟩
    · cases w
  · obtain ⟨o1, eo, h⟩ := wb_v h
    have h := Option.some.inj h
    rcases key _ e with ⟨w, -⟩ | ⟨a2, w, w2, w3⟩
    · cases w
    · have w := Sum.inr.inj w
      rw [← h]
      refine ⟨w2, fun _ => ?_⟩
      show o1 0 = _
      rw [eo, ← w3, w]
      rfl
theorem fin_2n {x : Option (Nat ⊕ Int32)} {I : Nat → Int32} {M : Nat → Nat → Int32} {o : Nat → Int64} {r : Int32 × (Nat → Int32) × (Nat → Nat → Int32) × (Nat → Int64)} {j s : Int32} (h : wb_hp x (fun k => if k = 1 then some ((1 : Int32), I, M, o) else if k = 2 then some ((2 : Int32), I, M, o) else none) (fun r => (some (vp_updL o ((0 : Int32)).toNatClampNeg r.toInt64)).bind fun o1 => some ((0 : Int32), I, M, o1)) = some r) (key : ∀ q, x = some q → (q = .inl 1 ∧ j = 1) ∨ (q = .inl 2 ∧ j = 2) ∨ ∃ a, q = .inr a ∧ j = 0 ∧ a = s) : j = r.1 ∧ (r.1 = 0 → r.2.2.2 0 = s.toInt64) := by
  rcases fr_hp h with ⟨k, e, h⟩ | ⟨a, e, h⟩
  · rcases key _ e with ⟨w0, w⟩ | ⟨w0, w⟩ | ⟨a, w, -⟩
    · have w0 := Sum.inl.inj w0
      have h := Option.some.inj (wb_t w0 h)
      rw [← h]
      exact ⟨w, fun z => absurd z (by show ¬ (1 : Int32) = 0; decide)⟩
    · have w0 := Sum.inl.inj w0
      have h := wb_f (by rw [w0]; decide) h
      have h := Option.some.inj (wb_t w0 h)
      rw [← h]
      exact ⟨w, fun z => absurd z (by show ¬ (2 : Int32) = 0; decide)⟩
    · cases w
  · obtain ⟨o1, eo, h⟩ := wb_v h
    have h := Option.some.inj h
    rcases key _ e with ⟨w, -⟩ | ⟨w, -⟩ | ⟨a2, w, w2, w3⟩
    · cases w
    · cases w
    · have w := Sum.inr.inj w
      rw [← h]
      refine ⟨w2, fun _ => ?_⟩
      show o1 0 = _
      rw [eo, ← w3, w]
      rfl
theorem fin_1sx {P : (Nat → Int32) → (Nat → Nat → Int32) → Prop} {x : Option (Nat ⊕ (Int32 × (Nat → Int32) × (Nat → Nat → Int32)))} {I : Nat → Int32} {M : Nat → Nat → Int32} {o : Nat → Int64} {r : Int32 × (Nat → Int32) × (Nat → Nat → Int32) × (Nat → Int64)} {j s : Int32} (h : wb_hp x (fun k => if k = 1 then some ((1 : Int32), I, M, o) else none) (fun r => (some (vp_updL o ((0 : Int32)).toNatClampNeg r.1.toInt64)).bind fun o1 => some ((0 : Int32), r.2.1, r.2.2, o1)) = some r) (key : ∀ q, x = some q → (q = .inl 1 ∧ j = 1 ∧ P I M) ∨ ∃ a, q = .inr a ∧ j = 0 ∧ a.1 = s ∧ P a.2.1 a.2.2) : (j = r.1 ∧ (r.1 = 0 → r.2.2.2 0 = s.toInt64)) ∧ P r.2.1 r.2.2.1 := by
  rcases fr_hp h with ⟨k, e, h⟩ | ⟨a, e, h⟩
  · obtain ⟨c, h⟩ := wb_y h
    have h := Option.some.inj h
    rcases key _ e with ⟨-, w, p⟩ | ⟨a, w, -⟩
    · rw [← h]
      exact ⟨⟨w, fun z => absurd z (by show ¬ (1 : Int32) = 0; decide)⟩, p⟩
    · cases w
  · obtain ⟨o1, eo, h⟩ := wb_v h
    have h := Option.some.inj h
    rcases key _ e with ⟨w, -⟩ | ⟨a2, w, w2, w3, p⟩
    · cases w
    · have w := Sum.inr.inj w
      rw [← h]
      rw [← w] at w3 p
      refine ⟨⟨w2, fun _ => ?_⟩, p⟩
      show o1 0 = _
      rw [eo, ← w3]
      rfl
theorem fin_2sx {P : (Nat → Int32) → (Nat → Nat → Int32) → Prop} {x : Option (Nat ⊕ (Int32 × (Nat → Int32) × (Nat → Nat → Int32)))} {I : Nat → Int32} {M : Nat → Nat → Int32} {o : Nat → Int64} {r : Int32 × (Nat → Int32) × (Nat → Nat → Int32) × (Nat → Int64)} {j s : Int32} (h : wb_hp x (fun k => if k = 1 then some ((1 : Int32), I, M, o) else if k = 2 then some ((2 : Int32), I, M, o) else none) (fun r => (some (vp_updL o ((0 : Int32)).toNatClampNeg r.1.toInt64)).bind fun o1 => some ((0 : Int32), r.2.1, r.2.2, o1)) = some r) (key : ∀ q, x = some q → (q = .inl 1 ∧ j = 1 ∧ P I M) ∨ (q = .inl 2 ∧ j = 2 ∧ P I M) ∨ ∃ a, q = .inr a ∧ j = 0 ∧ a.1 = s ∧ P a.2.1 a.2.2) : (j = r.1 ∧ (r.1 = 0 → r.2.2.2 0 = s.toInt64)) ∧ P r.2.1 r.2.2.1 := by
  rcases fr_hp h with ⟨k, e, h⟩ | ⟨a, e, h⟩
  · rcases key _ e with ⟨w0, w, p⟩ | ⟨w0, w, p⟩ | ⟨a, w, -⟩
    · have w0 := Sum.inl.inj w0
      have h := Option.some.inj (wb_t w0 h)
      rw [← h]
      exact ⟨⟨w, fun z => absurd z (by show ¬ (1 : Int32) = 0; decide)⟩, p⟩
    · have w0 := Sum.inl.inj w0
      have h := wb_f (by rw [w0]; decide) h
      have h := Option.some.inj (wb_t w0 h)
      rw [← h]
      exact ⟨⟨w, fun z => absurd z (by show ¬ (2 : Int32) = 0; decide)⟩, p⟩
    · cases w
  · obtain ⟨o1, eo, h⟩ := wb_v h
    have h := Option.some.inj h
    rcases key _ e with ⟨w, -⟩ | ⟨w, -⟩ | ⟨a2, w, w2, w3, p⟩
    · cases w
    · cases w
    · have w := Sum.inr.inj w
      rw [← h]
      rw [← w] at w3 p
      refine ⟨⟨w2, fun _ => ?_⟩, p⟩
      show o1 0 = _
      rw [eo, ← w3]
      rfl
theorem fin_1s {x : Option (Nat ⊕ (Int32 × (Nat → Int32) × (Nat → Nat → Int32)))} {I : Nat → Int32} {M : Nat → Nat → Int32} {o : Nat → Int64} {r : Int32 × (Nat → Int32) × (Nat → Nat → Int32) × (Nat → Int64)} {j s : Int32} (h : wb_hp x (fun k => if k = 1 then some ((1 : Int32), I, M, o) else none) (fun r => (some (vp_updL o ((0 : Int32)).toNatClampNeg r.1.toInt64)).bind fun o1 => some ((0 : Int32), r.2.1, r.2.2, o1)) = some r) (key : ∀ q, x = some q → (q = .inl 1 ∧ j = 1) ∨ ∃ a, q = .inr a ∧ j = 0 ∧ a.1 = s) : j = r.1 ∧ (r.1 = 0 → r.2.2.2 0 = s.toInt64) :=
  (fin_1sx (P := fun _ _ => True) h (fun q e => by
    rcases key q e with ⟨a, b⟩ | ⟨a, b, c, d⟩
    · exact Or.inl ⟨a, b, trivial⟩
    · exact Or.inr ⟨a, b, c, d, trivial⟩)).1
theorem fin_2s {x : Option (Nat ⊕ (Int32 × (Nat → Int32) × (Nat → Nat → Int32)))} {I : Nat → Int32} {M : Nat → Nat → Int32} {o : Nat → Int64} {r : Int32 × (Nat → Int32) × (Nat → Nat → Int32) × (Nat → Int64)} {j s : Int32} (h : wb_hp x (fun k => if k = 1 then some ((1 : Int32), I, M, o) else if k = 2 then some ((2 : Int32), I, M, o) else none) (fun r => (some (vp_updL o ((0 : Int32)).toNatClampNeg r.1.toInt64)).bind fun o1 => some ((0 : Int32), r.2.1, r.2.2, o1)) = some r) (key : ∀ q, x = some q → (q = .inl 1 ∧ j = 1) ∨ (q = .inl 2 ∧ j = 2) ∨ ∃ a, q = .inr a ∧ j = 0 ∧ a.1 = s) : j = r.1 ∧ (r.1 = 0 → r.2.2.2 0 = s.toInt64) :=
  (fin_2sx (P := fun _ _ => True) h (fun q e => by
    rcases key q e with ⟨a, b⟩ | ⟨a, b⟩ | ⟨a, b, c, d⟩
    · exact Or.inl ⟨a, b, trivial⟩
    · exact Or.inr (Or.inl ⟨a, b, trivial⟩)
    · exact Or.inr (Or.inr ⟨a, b, c, d, trivial⟩))).1
theorem ck_isSpan {N : Nat} {x y r : Int32} (x0 : 0 ≤ x.toInt) (x1 : x.toInt ≤ 1000000) (h : fX11_isSpan N x y = some r) : (r = 1 ∧ (0 ≤ y.toInt ∧ y.toInt ≤ 50000) ∧ x.toInt + y.toInt ≤ 1000000) ∨ (r = 0 ∧ ¬ ((0 ≤ y.toInt ∧ y.toInt ≤ 50000) ∧ x.toInt + y.toInt ≤ 1000000)) := by
  have n : (1000000 : Int32).toInt = 1000000 := by decide
  have t := ia_sub 1000000 x (by rw [n]; omega) (by rw [n]; omega)
  rw [n] at t
  unfold fX11_isSpan at h
  obtain ⟨r1, e1, h⟩ := wb_b h
  rcases ck_within 0 50000 (by decide) (by decide) e1 with ⟨q, c⟩ | ⟨q, c⟩
  · have h := wb_f (by rw [q]; decide) h
    rcases ifr h with ⟨d, h⟩ | ⟨d, h⟩
    · have d := (lt32 t rfl).mp d
      exact Or.inr ⟨(Option.some.inj h).symm, by omega⟩
    · have d : ¬ _ := fun z => d ((lt32 t rfl).mpr z)
      exact Or.inl ⟨(Option.some.inj h).symm, c, by omega⟩
  · exact Or.inr ⟨(Option.some.inj (wb_t q h)).symm, fun z => c z.1⟩
theorem ck12_isSpan {N : Nat} {J : Nat → Int32} {L : Int64} {K : Nat → Nat → Int32} {x y : Int32} {S : Int32 × (Nat → Int32) × Int64 × (Nat → Nat → Int32)} (j0 : J 0 = 0) (h : fX12_isSpan N J L K x y = some S) : (((0 ≤ x.toInt ∧ x.toInt ≤ 1000000) ∧ (0 ≤ y.toInt ∧ y.toInt ≤ 50000) ∧ x.toInt + y.toInt ≤ 1000000) ∧ S = (1, J, L, K)) ∨ (¬ (0 ≤ x.toInt ∧ x.toInt ≤ 1000000) ∧ S = (0, upd J 0 1, L, K)) ∨ (((0 ≤ x.toInt ∧ x.toInt ≤ 1000000) ∧ ¬ ((0 ≤ y.toInt ∧ y.toInt ≤ 50000) ∧ x.toInt + y.toInt ≤ 1000000)) ∧ S = (0, upd J 0 2, L, K)) := by
  unfold fX12_isSpan at h
  obtain ⟨r2, e2, h⟩ := wb_b h
  obtain ⟨r3, e3, h⟩ := wb_b h
  have j39 : fX12_isSpan_J39 N x y J L K = some S → S = (0, upd J 0 2, L, K) := by
    intro h
    unfold fX12_isSpan_J39 at h
    obtain ⟨q, e, h⟩ := wb_b h
    rcases rt12 j0 (by decide) e with ⟨z, -⟩ | ⟨-, z⟩
    · exact absurd rfl z
    · subst z
      exact (Option.some.inj (wb_t (c := (0 : Int32) = 0) rfl h)).symm
  rcases ck_within12 0 1000000 (by decide) (by decide) e2 with ⟨q, c⟩ | ⟨q, c⟩
  · rcases rt12 j0 (by decide) e3 with ⟨-, z⟩ | ⟨z, -⟩
    · subst z
      have h := wb_f (c := (1 : Int32) = 0) (by decide) h
      obtain ⟨r4, e4, h⟩ := wb_b h
      rcases ck_within12 0 50000 (by decide) (by decide) e4 with ⟨q4, c4⟩ | ⟨q4, c4⟩
      · have h := wb_f (by rw [q4]; decide) h
        have t := ia_add x y (by omega) (by omega)
        rcases ifr h with ⟨d, h⟩ | ⟨d, h⟩
        · have d := (lt32 (by decide : (1000000 : Int32).toInt = 1000000) t).mp d
          exact Or.inr (Or.inr ⟨⟨c, by omega⟩, j39 h⟩)
        · have d : ¬ _ := fun z => d ((lt32 (by decide : (1000000 : Int32).toInt = 1000000) t).mpr z)
          obtain ⟨r5, e5, h⟩ := wb_b h
          rcases rt12 j0 (by decide) e5 with ⟨-, z⟩ | ⟨z, -⟩
          · subst z
            have h := Option.some.inj (wb_f (c := (1 : Int32) = 0) (by decide) h)
            exact Or.inl ⟨⟨c, c4, by omega⟩, h.symm⟩
          · exact absurd z (by decide)
      · exact Or.inr (Or.inr ⟨⟨c, fun z => c4 z.1⟩, j39 (wb_t q4 h)⟩)
    · rw [q] at z
      exact absurd z (by decide)
  · rcases rt12 j0 (by decide) e3 with ⟨z, -⟩ | ⟨-, z⟩
    · exact absurd q z
    · subst z
      have h := Option.some.inj (wb_t (c := (0 : Int32) = 0) rfl h)
      exact Or.inr (Or.inl ⟨c, h.symm⟩)

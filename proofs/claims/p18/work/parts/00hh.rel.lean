/-! a WHEEL: class and reference -/
theorem atEnd {N : Nat} {I : Nat → Int32} {M : Nat → Nat → Int32} {r : Int32} (h : fX9_isAtEnd N I M = some r) : (r = 1 ∧ I 4 = 0) ∨ (r = 0 ∧ ¬ I 4 = 0) := by
  unfold fX9_isAtEnd at h
  rcases ifr h with ⟨c, h⟩ | ⟨c, h⟩
  · exact Or.inl ⟨(Option.some.inj h).symm, c⟩
  · exact Or.inr ⟨(Option.some.inj h).symm, c⟩
theorem rdL {N N2 : Nat} {x1 x2 x3 : Int32} {gg : (Nat → Int32) → Int64 → (Nat → Nat → Int32) → Int32 → Option (Int32 × (Nat → Int32) × Int64 × (Nat → Nat → Int32))} : ∀ (fu fv y : Nat) (I0 : Nat → Int32) (M0 : Nat → Nat → Int32) (I : Nat → Int32) (M : Nat → Nat → Int32) (J : Nat → Int32) (L : Int64) (K : Nat → Nat → Int32) R S, fX1_readEntries_L10 N fu I0 M0 I M (nI y) = some R → fX12_wheel_L50 N2 x1 x2 x3 gg fv J L K = some S → TK I J L M K → J 4 = 0 → DR M0 K → PsT I → (y : Int) ≤ (I 2).toInt → y ≤ 600 →
    ∃ J' L' K', fX12_wheel_J71 N2 x1 x2 x3 J' L' K' = some S ∧ R.2.2.2.2 = M ∧ R.2.2.1 0 = M0 0 ∧ K' 7 = K 7 ∧ J' 0 = J 0 ∧ J' 3 = J 3 ∧ ((R.1 = 1 ∧ J' 4 = 0 ∧ DR R.2.2.1 K' ∧ R.2.2.2.1 7 = I 7) ∨ (R.1 = 0 ∧ FT R.2.2.2.1 J')) := by
  intro fu
  induction fu with
  | zero => intro fv y I0 M0 I M J L K R S h; cases (show none = some R from h)
  | succ fu ih =>
    intro fv y I0 M0 I M J L K R S h g tk j4 d ps hy hy6
    cases fv with
    | zero => cases (show none = some S from g)
    | succ fv =>
      rw [fX1_readEntries_L10.eq_2] at h
      rw [fX12_wheel_L50.eq_2] at g
      rw [good1 j4, Option.bind_some] at g
      have g := wb_f (c := (1 : Int32) = 0) (by decide) g
      have tk2 := tk
      obtain ⟨q, b1, b2, b3, b4, b5, b6, b7⟩ := tk2
      obtain ⟨a1, a2, a3, a4, a5, a6⟩ := q
      have ty : (nI y).toInt = (y : Int) := nI_toInt (by omega)
      have fin : I 4 = 0 → R = (1, I0, M0, I, M) → ∃ J' L' K', fX12_wheel_J71 N2 x1 x2 x3 J' L' K' = some S ∧ R.2.2.2.2 = M ∧ R.2.2.1 0 = M0 0 ∧ K' 7 = K 7 ∧ J' 0 = J 0 ∧ J' 3 = J 3 ∧ ((R.1 = 1 ∧ J' 4 = 0 ∧ DR R.2.2.1 K' ∧ R.2.2.2.1 7 = I 7) ∨ (R.1 = 0 ∧ FT R.2.2.2.1 J')) := by
        intro h0 eR
        subst eR
        have g := wb_t (b2.symm.trans h0) g
        exact ⟨J, L, K, g, rfl, rfl, rfl, rfl, rfl, Or.inl ⟨rfl, j4, d, rfl⟩⟩
      rcases ifr h with ⟨c, h⟩ | ⟨c, h⟩
      · have c := (le32 (x := 600) (by decide) ty).mp c
        refine fin ?_ (Option.some.inj h).symm
        refine Decidable.byContradiction (fun z => ?_)
        have := ps z
        omega
      · have c : ¬ _ := fun z => c ((le32 (x := 600) (by decide) ty).mpr z)
        obtain ⟨r3, e3, h⟩ := wb_b h
        rcases atEnd e3 with ⟨c1, c2⟩ | ⟨c1, c2⟩
        · exact fin c2 (Option.some.inj (wb_f (by rw [c1]; decide) h)).symm
        · have h := wb_t c1 h
          have g := wb_f (fun z => c2 (b2.trans z)) g
          obtain ⟨r4, e4, h⟩ := wb_b h
          obtain ⟨s8, f8, g⟩ := wb_b g
          have k7 : s8.2.2 7 = K 7 := (fr_fX12_readsEntry f8).2 7 (by decide)
          have z0 : s8.1 0 = J 0 := (fr_fX12_readsEntry f8).1 0 (by decide)
          have z3 : s8.1 3 = J 3 := (fr_fX12_readsEntry f8).1 3 (by decide)
          rcases rdE tk j4 d e4 f8 with ⟨k1, k2, k3, k4, k5, k6, km, kp, kf⟩ | ⟨k1, k2, k3, k4⟩
          · have h := wb_f (by rw [k1]; decide) h
            obtain ⟨v5, e5, h⟩ := wb_v h
            rw [e5, nI_1, k5] at h
            have ps2 := ps c2
            obtain ⟨J', L', K', t1, t2, t3, t4, y0, y3, t5⟩ := ih fv (y + 1) r4.2.1 r4.2.2.1 r4.2.2.2.1 M s8.1 s8.2.1 s8.2.2 R S h g k2 k3 k4 kp (by omega) (by omega)
            refine ⟨J', L', K', t1, t2, t3.trans k6, t4.trans k7, y0.trans z0, y3.trans z3, ?_⟩
            rcases t5 with ⟨u1, u2, u3, u4⟩ | u
            · exact Or.inl ⟨u1, u2, u3, u4.trans kf⟩
            · exact Or.inr u
          · have h := Option.some.inj (wb_t k1 h)
            subst h
            cases fv with
            | zero => cases (show none = some S from g)
            | succ fv =>
              rw [fX12_wheel_L50.eq_2] at g
              rw [good2 k2.2, Option.bind_some] at g
              have g := wb_t (c := (0 : Int32) = 0) rfl g
              exact ⟨s8.1, s8.2.1, s8.2.2, g, k3, k4, k7, z0, z3, Or.inr ⟨rfl, k2⟩⟩
/-- of the reference's wheel: the draft is cleared -/
theorem w29 {N : Nat} {x1 x2 x3 : Int32} : ∀ (fu y : Nat) (J : Nat → Int32) (L : Int64) (K : Nat → Nat → Int32) S, fX12_wheel_L29 N x1 x2 x3 fu J L K (nI y) = some S → y ≤ 22 → (∀ e, e < y → K 16 e = -1) → ∃ (K' : Nat → Nat → Int32) (gg : (Nat → Int32) → Int64 → (Nat → Nat → Int32) → Int32 → Option (Int32 × (Nat → Int32) × Int64 × (Nat → Nat → Int32))), fX12_wheel_L50 N x1 x2 x3 gg N J L K' = some S ∧ (∀ e, e < 22 → K' 16 e = -1) ∧ ∀ k, ¬ k = 16 → K' k = K k := by
  intro fu
  induction fu with
  | zero => intro y J L K S h; cases (show none = some S from h)
  | succ fu ih =>
    intro y J L K S h hy hk
    rw [fX12_wheel_L29.eq_2] at h
    have ty : (nI y).toInt = (y : Int) := nI_toInt (by omega)
    rcases ifr h with ⟨c, h⟩ | ⟨c, h⟩
    · have c := (le32 (x := 22) (by decide) ty).mp c
      exact ⟨K, _, h, fun e he => hk e (by omega), fun _ _ => rfl⟩
    · have c : ¬ _ := fun z => c ((le32 (x := 22) (by decide) ty).mpr z)
      obtain ⟨-, h⟩ := wb_n h
      obtain ⟨K9, e9, h⟩ := wb_v h
      obtain ⟨v, ev, h⟩ := wb_v h
      rw [ev, nI_1] at h
      rw [nI_clamp (by omega)] at e9
      obtain ⟨K', gg, t1, t2, t3⟩ := ih (y + 1) J L K9 S h (by omega) (fun e he => by
        rw [e9]
        show (if (16 : Nat) = 16 then upd (K 16) y (-1) else K 16) e = -1
        rw [if_pos rfl]
        unfold upd
        by_cases hey : e = y
        · rw [if_pos hey]
        · rw [if_neg hey]; exact hk e (by omega))
      refine ⟨K', gg, t1, t2, fun k hk => (t3 k hk).trans ?_⟩
      rw [e9]
      show (if k = 16 then upd (K 16) y (-1) else K k) = K k
      rw [if_neg hk]
/-- of the reference's wheel: the draft is kept -/
theorem w86 {N : Nat} {x1 x2 x3 : Int32} {b : Nat} (hb : ((22 : Int32) * (((20 : Int32) * x1) + x2)).toInt = (b : Int)) (hb2 : b + 22 ≤ 2640) : ∀ (fu y : Nat) (J : Nat → Int32) (L : Int64) (K : Nat → Nat → Int32) S, fX12_wheel_L86 N x1 x2 x3 fu J L K (nI y) = some S → y ≤ 22 → S.1 = 0 ∧ S.2.1 = J ∧ (∀ j, S.2.2.2 7 j = if b + y ≤ j ∧ j < b + 22 then K 16 (j - b) else K 7 j) := by
  intro fu
  induction fu with
  | zero => intro y J L K S h; cases (show none = some S from h)
  | succ fu ih =>
    intro y J L K S h hy
    rw [fX12_wheel_L86.eq_2] at h
    have ty : (nI y).toInt = (y : Int) := nI_toInt (by omega)
    rcases ifr h with ⟨c, h⟩ | ⟨c, h⟩
    · have c := (le32 (x := 22) (by decide) ty).mp c
      have h := Option.some.inj h
      subst h
      refine ⟨rfl, rfl, fun j => ?_⟩
      rw [if_neg (by omega)]
    · have c : ¬ _ := fun z => c ((le32 (x := 22) (by decide) ty).mpr z)
      obtain ⟨-, h⟩ := wb_n h
      obtain ⟨-, h⟩ := wb_n h
      obtain ⟨K9, e9, h⟩ := wb_v h
      obtain ⟨v, ev, h⟩ := wb_v h
      rw [ev, nI_1] at h
      have ei : ((22 : Int32) * (((20 : Int32) * x1) + x2) + nI y).toNatClampNeg = b + y := by
        rw [cl32, ia_add _ _ (by omega) (by omega), hb, ty]
        omega
      rw [ei, nI_clamp (by omega)] at e9
      obtain ⟨t1, t0, t2⟩ := ih (y + 1) J L K9 S h (by omega)
      refine ⟨t1, t0, fun j => ?_⟩
      rw [t2 j]
      have k16 : K9 16 = K 16 := by rw [e9]; rfl
      have k7 : K9 7 j = if j = b + y then K 16 y else K 7 j := by
        rw [e9]
        show (if (7 : Nat) = 7 then upd (K 7) (b + y) (K 16 y) else K 7) j = _
        rw [if_pos rfl]
        rfl
      rw [k16, k7]
      by_cases h1 : b + (y + 1) ≤ j ∧ j < b + 22
      · rw [if_pos h1, if_pos (by omega)]
      · rw [if_neg h1]
        by_cases h2 : j = b + y
        · rw [if_pos h2, if_pos (by omega), h2, show b + y - b = y by omega]
        · rw [if_neg h2, if_neg (by omega)]

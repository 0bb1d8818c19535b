theorem fr_fX12_best_L45 {N : Nat} {x1 : Int32} {x2 : Int32} {x3 : Int32} {x4 : Int32} {x5 : Int32} : ∀ fu I0_l45 L0_l45 M0_l45 y45_6 y45_7 R, fX12_best_L45 N x1 x2 x3 x4 x5 fu I0_l45 L0_l45 M0_l45 y45_6 y45_7 = some R → Eqo fwI_X12_best R.2.1 I0_l45 ∧ Eqo fwM_X12_best R.2.2.2 M0_l45 := by
  intro fu
  induction fu with
  | zero => intro I0_l45 L0_l45 M0_l45 y45_6 y45_7 R h; cases (show none = some R from h)
  | succ fu ih =>
    intro I0_l45 L0_l45 M0_l45 y45_6 y45_7 R h
    rw [fX12_best_L45.eq_2] at h
    rcases fr_i h with h | h
    · have h := Option.some.inj h
      subst h
      exact ⟨(Eqo.refl fwI_X12_best I0_l45), (Eqo.refl fwM_X12_best M0_l45)⟩
    · obtain ⟨r8, -, h⟩ := wb_b h
      rcases fr_i h with h | h
      · rcases fr_i h with h | h
        · have c103 : ∀ q0 q1 q2 q3 q4 R, (fX12_best_L45 N x1 x2 x3 x4 x5 fu q0 q1 q2 q3 q4) = some R → Eqo fwI_X12_best R.2.1 q0 ∧ Eqo fwM_X12_best R.2.2.2 q2 := by
              intro q0 q1 q2 q3 q4 R h
              have a102 := ih _ _ _ _ _ _ h
              exact ⟨a102.1.tr (by decide) (Eqo.refl fwI_X12_best q0), a102.2.tr (by decide) (Eqo.refl fwM_X12_best q2)⟩
          have a1 := fr_fX12_best_J94 c103 h
          exact ⟨a1.1.tr (by decide) (Eqo.refl fwI_X12_best I0_l45), a1.2.tr (by decide) (Eqo.refl fwM_X12_best M0_l45)⟩
        · obtain ⟨I0_9, e_I0_9, h⟩ := wb_v h
          have f_I0_9 := Eqo.eq e_I0_9 (Eqo.u (by decide) (Eqo.refl fwI_X12_best I0_l45))
          have c206 : ∀ q0 q1 q2 q3 q4 R, (fX12_best_L45 N x1 x2 x3 x4 x5 fu q0 q1 q2 q3 q4) = some R → Eqo fwI_X12_best R.2.1 q0 ∧ Eqo fwM_X12_best R.2.2.2 q2 := by
              intro q0 q1 q2 q3 q4 R h
              have a205 := ih _ _ _ _ _ _ h
              exact ⟨a205.1.tr (by decide) (Eqo.refl fwI_X12_best q0), a205.2.tr (by decide) (Eqo.refl fwM_X12_best q2)⟩
          have a104 := fr_fX12_best_J94 c206 h
          exact ⟨a104.1.tr (by decide) f_I0_9, a104.2.tr (by decide) (Eqo.refl fwM_X12_best M0_l45)⟩
      · obtain ⟨v10, -, h⟩ := wb_v h
        have a207 := ih _ _ _ _ _ _ h
        exact ⟨a207.1.tr (by decide) (Eqo.refl fwI_X12_best I0_l45), a207.2.tr (by decide) (Eqo.refl fwM_X12_best M0_l45)⟩
theorem fr_fX12_best {N : Nat} {I0 : Nat → Int32} {L0 : Int64} {M0 : Nat → Nat → Int32} {x1 : Int32} {x2 : Int32} {x3 : Int32} {x4 : Int32} {x5 : Int32} {R} (h : fX12_best N I0 L0 M0 x1 x2 x3 x4 x5 = some R) : Eqo fwI_X12_best R.2.1 I0 ∧ Eqo fwM_X12_best R.2.2.2 M0 := by
  unfold fX12_best at h
  obtain ⟨r1, e_r1, h⟩ := wb_b h
  have a1 := fr_fX12_isWheel e_r1
  have fI_r1 := a1.1.tr (W := fwI_X12_best) (by decide) (Eqo.refl fwI_X12_best I0)
  have fM_r1 := a1.2.tr (W := fwM_X12_best) (by decide) (Eqo.refl fwM_X12_best M0)
  rcases fr_i h with h | h
  · have h := Option.some.inj h
    subst h
    exact ⟨fI_r1, fM_r1⟩
  · obtain ⟨r2, -, h⟩ := wb_b h
    obtain ⟨r3, e_r3, h⟩ := wb_b h
    have a2 := fr_fX12_right e_r3
    have fI_r3 := a2.1.tr (W := fwI_X12_best) (by decide) fI_r1
    have fM_r3 := a2.2.tr (W := fwM_X12_best) (by decide) fM_r1
    rcases fr_i h with h | h
    · have h := Option.some.inj h
      subst h
      exact ⟨fI_r3, fM_r3⟩
    · obtain ⟨r4, e_r4, h⟩ := wb_b h
      have a3 := fr_fX12_isSpan e_r4
      have fI_r4 := a3.1.tr (W := fwI_X12_best) (by decide) fI_r3
      have fM_r4 := a3.2.tr (W := fwM_X12_best) (by decide) fM_r3
      rcases fr_i h with h | h
      · have h := Option.some.inj h
        subst h
        exact ⟨fI_r4, fM_r4⟩
      · have a4 := fr_fX12_best_L45 _ _ _ _ _ _ _ h
        exact ⟨a4.1.tr (by decide) fI_r4, a4.2.tr (by decide) fM_r4⟩
abbrev fwI_X12_day : List Nat := [0]
abbrev fwM_X12_day : List Nat := []
theorem fr_fX12_day_J38 {N : Nat} {x1 : Int32} {I0_j38 : Nat → Int32} {L0_j38 : Int64} {M0_j38 : Nat → Nat → Int32} {z38_0 : Int32} {R} (h : fX12_day_J38 N x1 I0_j38 L0_j38 M0_j38 z38_0 = some R) : Eqo fwI_X12_day R.2.1 I0_j38 ∧ Eqo fwM_X12_day R.2.2.2 M0_j38 := by
  unfold fX12_day_J38 at h
  obtain ⟨r1, e_r1, h⟩ := wb_b h
  have a1 := fr_fX12_right e_r1
  have fI_r1 := a1.1.tr (W := fwI_X12_day) (by decide) (Eqo.refl fwI_X12_day I0_j38)
  have fM_r1 := a1.2.tr (W := fwM_X12_day) (by decide) (Eqo.refl fwM_X12_day M0_j38)
  rcases fr_i h with h | h
  · have h := Option.some.inj h
    subst h
    exact ⟨fI_r1, fM_r1⟩
  · rcases fr_i h with h | h
    · have h := Option.some.inj h
      subst h
      exact ⟨fI_r1, fM_r1⟩
    · obtain ⟨-, h⟩ := wb_n h
      have h := Option.some.inj h
      subst h
      exact ⟨fI_r1, fM_r1⟩
theorem fr_fX12_day_J37 {N : Nat} {x1 : Int32} {I0_j37 : Nat → Int32} {L0_j37 : Int64} {M0_j37 : Nat → Nat → Int32} {R} (h : fX12_day_J37 N x1 I0_j37 L0_j37 M0_j37 = some R) : Eqo fwI_X12_day R.2.1 I0_j37 ∧ Eqo fwM_X12_day R.2.2.2 M0_j37 := by
  unfold fX12_day_J37 at h
  have a1 := fr_fX12_day_J38 h
  exact ⟨a1.1.tr (by decide) (Eqo.refl fwI_X12_day I0_j37), a1.2.tr (by decide) (Eqo.refl fwM_X12_day M0_j37)⟩
theorem fr_fX12_day {N : Nat} {I0 : Nat → Int32} {L0 : Int64} {M0 : Nat → Nat → Int32} {x1 : Int32} {R} (h : fX12_day N I0 L0 M0 x1 = some R) : Eqo fwI_X12_day R.2.1 I0 ∧ Eqo fwM_X12_day R.2.2.2 M0 := by
  unfold fX12_day at h
  obtain ⟨I0_2, e_I0_2, h⟩ := wb_v h
  have f_I0_2 := Eqo.eq e_I0_2 (Eqo.u (by decide) (Eqo.refl fwI_X12_day I0))
  rcases fr_i h with h | h
  · have a1 := fr_fX12_day_J37 h
    exact ⟨a1.1.tr (by decide) f_I0_2, a1.2.tr (by decide) (Eqo.refl fwM_X12_day M0)⟩
  · rcases fr_i h with h | h
    · have a2 := fr_fX12_day_J37 h
      exact ⟨a2.1.tr (by decide) f_I0_2, a2.2.tr (by decide) (Eqo.refl fwM_X12_day M0)⟩
    · rcases fr_i h with h | h
      · have a3 := fr_fX12_day_J37 h
        exact ⟨a3.1.tr (by decide) f_I0_2, a3.2.tr (by decide) (Eqo.refl fwM_X12_day M0)⟩
      · rcases fr_i h with h | h
        · have a4 := fr_fX12_day_J37 h
          exact ⟨a4.1.tr (by decide) f_I0_2, a4.2.tr (by decide) (Eqo.refl fwM_X12_day M0)⟩
        · have a5 := fr_fX12_day_J38 h
          exact ⟨a5.1.tr (by decide) f_I0_2, a5.2.tr (by decide) (Eqo.refl fwM_X12_day M0)⟩
abbrev fwI_X12_whose : List Nat := [0]
abbrev fwM_X12_whose : List Nat := []
theorem fr_fX12_whose_J138 {N : Nat} {x1 : Int32} {x2 : Int32} {x3 : Int32} {x4 : Int32} {x5 : Int32} {g50 : (Nat → Int32) → Int64 → (Nat → Nat → Int32) → Int32 → Int32 → Int32 → Int32 → Option (Int32 × (Nat → Int32) × Int64 × (Nat → Nat → Int32))} {I0_j138 : Nat → Int32} {L0_j138 : Int64} {M0_j138 : Nat → Nat → Int32} {y138_6 : Int32} {y138_7 : Int32} {y138_9 : Int32} {y138_10 : Int32} {z138_0 : Int32} (hg50 : ∀ q0 q1 q2 q3 q4 q5 q6 R, g50 q0 q1 q2 q3 q4 q5 q6 = some R → Eqo fwI_X12_whose R.2.1 q0 ∧ Eqo fwM_X12_whose R.2.2.2 q2) {R} (h : fX12_whose_J138 N x1 x2 x3 x4 x5 g50 I0_j138 L0_j138 M0_j138 y138_6 y138_7 y138_9 y138_10 z138_0 = some R) : Eqo fwI_X12_whose R.2.1 I0_j138 ∧ Eqo fwM_X12_whose R.2.2.2 M0_j138 := by
  unfold fX12_whose_J138 at h
  rcases fr_i h with h | h
  · obtain ⟨v5, -, h⟩ := wb_v h
    have a1 := hg50 _ _ _ _ _ _ _ _ h
    exact ⟨a1.1.tr (by decide) (Eqo.refl fwI_X12_whose I0_j138), a1.2.tr (by decide) (Eqo.refl fwM_X12_whose M0_j138)⟩
  · obtain ⟨v6, -, h⟩ := wb_v h
    have a2 := hg50 _ _ _ _ _ _ _ _ h
    exact ⟨a2.1.tr (by decide) (Eqo.refl fwI_X12_whose I0_j138), a2.2.tr (by decide) (Eqo.refl fwM_X12_whose M0_j138)⟩
theorem fr_fX12_whose_L64 {N : Nat} {x1 : Int32} {x2 : Int32} {x3 : Int32} {x4 : Int32} {x5 : Int32} {y50_6 : Int32} {y50_7 : Int32} {y50_8 : Int32} {y50_9 : Int32} {g50 : (Nat → Int32) → Int64 → (Nat → Nat → Int32) → Int32 → Int32 → Int32 → Int32 → Option (Int32 × (Nat → Int32) × Int64 × (Nat → Nat → Int32))} (hg50 : ∀ q0 q1 q2 q3 q4 q5 q6 R, g50 q0 q1 q2 q3 q4 q5 q6 = some R → Eqo fwI_X12_whose R.2.1 q0 ∧ Eqo fwM_X12_whose R.2.2.2 q2) : ∀ fu I0_l64 L0_l64 M0_l64 y64_10 y64_11 R, fX12_whose_L64 N x1 x2 x3 x4 x5 y50_6 y50_7 y50_8 y50_9 g50 fu I0_l64 L0_l64 M0_l64 y64_10 y64_11 = some R → Eqo fwI_X12_whose R.2.1 I0_l64 ∧ Eqo fwM_X12_whose R.2.2.2 M0_l64 := by
  intro fu
  induction fu with
  | zero => intro I0_l64 L0_l64 M0_l64 y64_10 y64_11 R h; cases (show none = some R from h)
  | succ fu ih =>
    intro I0_l64 L0_l64 M0_l64 y64_10 y64_11 R h
    rw [fX12_whose_L64.eq_2] at h
    rcases fr_i h with h | h
    · rcases fr_i h with h | h
      · rcases fr_i h with h | h
        · have a1 := fr_fX12_whose_J138 hg50 h
          exact ⟨a1.1.tr (by decide) (Eqo.refl fwI_X12_whose I0_l64), a1.2.tr (by decide) (Eqo.refl fwM_X12_whose M0_l64)⟩
        · have a2 := fr_fX12_whose_J138 hg50 h
          exact ⟨a2.1.tr (by decide) (Eqo.refl fwI_X12_whose I0_l64), a2.2.tr (by decide) (Eqo.refl fwM_X12_whose M0_l64)⟩
      · obtain ⟨v7, -, h⟩ := wb_v h
        have a3 := hg50 _ _ _ _ _ _ _ _ h
        exact ⟨a3.1.tr (by decide) (Eqo.refl fwI_X12_whose I0_l64), a3.2.tr (by decide) (Eqo.refl fwM_X12_whose M0_l64)⟩
    · obtain ⟨r8, -, h⟩ := wb_b h
      rcases fr_i h with h | h
      · obtain ⟨v9, -, h⟩ := wb_v h
        have a4 := ih _ _ _ _ _ _ h
        exact ⟨a4.1.tr (by decide) (Eqo.refl fwI_X12_whose I0_l64), a4.2.tr (by decide) (Eqo.refl fwM_X12_whose M0_l64)⟩
      · obtain ⟨v10, -, h⟩ := wb_v h
        have a5 := ih _ _ _ _ _ _ h
        exact ⟨a5.1.tr (by decide) (Eqo.refl fwI_X12_whose I0_l64), a5.2.tr (by decide) (Eqo.refl fwM_X12_whose M0_l64)⟩
theorem fr_fX12_whose_L50 {N : Nat} {x1 : Int32} {x2 : Int32} {x3 : Int32} {x4 : Int32} {x5 : Int32} : ∀ fu I0_l50 L0_l50 M0_l50 y50_6 y50_7 y50_8 y50_9 R, fX12_whose_L50 N x1 x2 x3 x4 x5 fu I0_l50 L0_l50 M0_l50 y50_6 y50_7 y50_8 y50_9 = some R → Eqo fwI_X12_whose R.2.1 I0_l50 ∧ Eqo fwM_X12_whose R.2.2.2 M0_l50 := by
  intro fu
  induction fu with
  | zero => intro I0_l50 L0_l50 M0_l50 y50_6 y50_7 y50_8 y50_9 R h; cases (show none = some R from h)
  | succ fu ih =>
    intro I0_l50 L0_l50 M0_l50 y50_6 y50_7 y50_8 y50_9 R h
    rw [fX12_whose_L50.eq_2] at h
    rcases fr_i h with h | h
    · rcases fr_i h with h | h
      · have h := Option.some.inj h
        subst h
        exact ⟨(Eqo.refl fwI_X12_whose I0_l50), (Eqo.refl fwM_X12_whose M0_l50)⟩
      · rcases fr_i h with h | h
        · have h := Option.some.inj h
          subst h
          exact ⟨(Eqo.refl fwI_X12_whose I0_l50), (Eqo.refl fwM_X12_whose M0_l50)⟩
        · have h := Option.some.inj h
          subst h
          exact ⟨(Eqo.refl fwI_X12_whose I0_l50), (Eqo.refl fwM_X12_whose M0_l50)⟩
    · have c103 : ∀ q0 q1 q2 q3 q4 q5 q6 R, (fX12_whose_L50 N x1 x2 x3 x4 x5 fu q0 q1 q2 q3 q4 q5 q6) = some R → Eqo fwI_X12_whose R.2.1 q0 ∧ Eqo fwM_X12_whose R.2.2.2 q2 := by
          intro q0 q1 q2 q3 q4 q5 q6 R h
          have a102 := ih _ _ _ _ _ _ _ _ h
          exact ⟨a102.1.tr (by decide) (Eqo.refl fwI_X12_whose q0), a102.2.tr (by decide) (Eqo.refl fwM_X12_whose q2)⟩
      have a1 := fr_fX12_whose_L64 c103 _ _ _ _ _ _ _ h
      exact ⟨a1.1.tr (by decide) (Eqo.refl fwI_X12_whose I0_l50), a1.2.tr (by decide) (Eqo.refl fwM_X12_whose M0_l50)⟩
theorem fr_fX12_whose {N : Nat} {I0 : Nat → Int32} {L0 : Int64} {M0 : Nat → Nat → Int32} {x1 : Int32} {x2 : Int32} {x3 : Int32} {x4 : Int32} {x5 : Int32} {R} (h : fX12_whose N I0 L0 M0 x1 x2 x3 x4 x5 = some R) : Eqo fwI_X12_whose R.2.1 I0 ∧ Eqo fwM_X12_whose R.2.2.2 M0 := by
  unfold fX12_whose at h
  obtain ⟨r1, e_r1, h⟩ := wb_b h
  have a1 := fr_fX12_isWheel e_r1
  have fI_r1 := a1.1.tr (W := fwI_X12_whose) (by decide) (Eqo.refl fwI_X12_whose I0)
  have fM_r1 := a1.2.tr (W := fwM_X12_whose) (by decide) (Eqo.refl fwM_X12_whose M0)
  rcases fr_i h with h | h
  · have h := Option.some.inj h
    subst h
    exact ⟨fI_r1, fM_r1⟩
  · obtain ⟨r2, -, h⟩ := wb_b h
    obtain ⟨r3, e_r3, h⟩ := wb_b h
    have a2 := fr_fX12_right e_r3
    have fI_r3 := a2.1.tr (W := fwI_X12_whose) (by decide) fI_r1
    have fM_r3 := a2.2.tr (W := fwM_X12_whose) (by decide) fM_r1
    rcases fr_i h with h | h
    · have h := Option.some.inj h
      subst h
      exact ⟨fI_r3, fM_r3⟩
    · obtain ⟨r4, e_r4, h⟩ := wb_b h
      have a3 := fr_fX12_isSpan e_r4
      have fI_r4 := a3.1.tr (W := fwI_X12_whose) (by decide) fI_r3
      have fM_r4 := a3.2.tr (W := fwM_X12_whose) (by decide) fM_r3
      rcases fr_i h with h | h
      · have h := Option.some.inj h
        subst h
        exact ⟨fI_r4, fM_r4⟩
      · have a4 := fr_fX12_whose_L50 _ _ _ _ _ _ _ _ _ h
        exact ⟨a4.1.tr (by decide) fI_r4, a4.2.tr (by decide) fM_r4⟩
abbrev fwI_X12_mixed : List Nat := [0]
abbrev fwM_X12_mixed : List Nat := []
theorem fr_fX12_mixed_L27 {N : Nat} {x1 : Int32} {x2 : Int32} {x3 : Int32} {x4 : Int32} : ∀ fu I0_l27 L0_l27 M0_l27 y27_5 y27_6 R, fX12_mixed_L27 N x1 x2 x3 x4 fu I0_l27 L0_l27 M0_l27 y27_5 y27_6 = some R → Eqo fwI_X12_mixed R.2.1 I0_l27 ∧ Eqo fwM_X12_mixed R.2.2.2 M0_l27 := by
  intro fu
  induction fu with
  | zero => intro I0_l27 L0_l27 M0_l27 y27_5 y27_6 R h; cases (show none = some R from h)
  | succ fu ih =>
    intro I0_l27 L0_l27 M0_l27 y27_5 y27_6 R h
    rw [fX12_mixed_L27.eq_2] at h
    rcases fr_i h with h | h
    · have h := Option.some.inj h
      subst h
      exact ⟨(Eqo.refl fwI_X12_mixed I0_l27), (Eqo.refl fwM_X12_mixed M0_l27)⟩
    · obtain ⟨r3, -, h⟩ := wb_b h
      rcases fr_i h with h | h
      · obtain ⟨v4, -, h⟩ := wb_v h
        have a1 := ih _ _ _ _ _ _ h
        exact ⟨a1.1.tr (by decide) (Eqo.refl fwI_X12_mixed I0_l27), a1.2.tr (by decide) (Eqo.refl fwM_X12_mixed M0_l27)⟩
      · obtain ⟨v5, -, h⟩ := wb_v h
        obtain ⟨v6, -, h⟩ := wb_v h
        have a2 := ih _ _ _ _ _ _ h
        exact ⟨a2.1.tr (by decide) (Eqo.refl fwI_X12_mixed I0_l27), a2.2.tr (by decide) (Eqo.refl fwM_X12_mixed M0_l27)⟩
theorem fr_fX12_mixed {N : Nat} {I0 : Nat → Int32} {L0 : Int64} {M0 : Nat → Nat → Int32} {x1 : Int32} {x2 : Int32} {x3 : Int32} {x4 : Int32} {R} (h : fX12_mixed N I0 L0 M0 x1 x2 x3 x4 = some R) : Eqo fwI_X12_mixed R.2.1 I0 ∧ Eqo fwM_X12_mixed R.2.2.2 M0 := by
  unfold fX12_mixed at h
  obtain ⟨r1, e_r1, h⟩ := wb_b h
  have a1 := fr_fX12_isWheel e_r1
  have fI_r1 := a1.1.tr (W := fwI_X12_mixed) (by decide) (Eqo.refl fwI_X12_mixed I0)
  have fM_r1 := a1.2.tr (W := fwM_X12_mixed) (by decide) (Eqo.refl fwM_X12_mixed M0)
  rcases fr_i h with h | h
  · have h := Option.some.inj h
    subst h
    exact ⟨fI_r1, fM_r1⟩
  · obtain ⟨r2, e_r2, h⟩ := wb_b h
    have a2 := fr_fX12_isSpan e_r2
    have fI_r2 := a2.1.tr (W := fwI_X12_mixed) (by decide) fI_r1
    have fM_r2 := a2.2.tr (W := fwM_X12_mixed) (by decide) fM_r1
    rcases fr_i h with h | h
    · have h := Option.some.inj h
      subst h
      exact ⟨fI_r2, fM_r2⟩
    · have a3 := fr_fX12_mixed_L27 _ _ _ _ _ _ _ h
      exact ⟨a3.1.tr (by decide) fI_r2, a3.2.tr (by decide) fM_r2⟩
abbrev fwI_X12_seek : List Nat := [0, 16]
abbrev fwM_X12_seek : List Nat := [18]
theorem fr_fX12_seek_J35 {N : Nat} {x1 : Int32} {x2 : Int32} {x3 : Int32} {x4 : Int32} {I0_j35 : Nat → Int32} {L0_j35 : Int64} {M0_j35 : Nat → Nat → Int32} {z35_0 : Int32} {R} (h : fX12_seek_J35 N x1 x2 x3 x4 I0_j35 L0_j35 M0_j35 z35_0 = some R) : Eqo fwI_X12_seek R.1 I0_j35 ∧ Eqo fwM_X12_seek R.2.2 M0_j35 := by
  unfold fX12_seek_J35 at h
  obtain ⟨r1, e_r1, h⟩ := wb_b h
  have a1 := fr_fX12_right e_r1
  have fI_r1 := a1.1.tr (W := fwI_X12_seek) (by decide) (Eqo.refl fwI_X12_seek I0_j35)
  have fM_r1 := a1.2.tr (W := fwM_X12_seek) (by decide) (Eqo.refl fwM_X12_seek M0_j35)
  rcases fr_i h with h | h
  · have h := Option.some.inj h
    subst h
    exact ⟨fI_r1, fM_r1⟩
  · obtain ⟨I0_2, e_I0_2, h⟩ := wb_v h
    have f_I0_2 := Eqo.eq e_I0_2 (Eqo.u (by decide) fI_r1)
    obtain ⟨-, h⟩ := wb_n h
    obtain ⟨M0_3, e_M0_3, h⟩ := wb_v h
    have f_M0_3 := Eqo.eq e_M0_3 (Eqo.m (by decide) fM_r1)
    obtain ⟨-, h⟩ := wb_n h
    obtain ⟨M0_4, e_M0_4, h⟩ := wb_v h
    have f_M0_4 := Eqo.eq e_M0_4 (Eqo.m (by decide) f_M0_3)
    obtain ⟨-, h⟩ := wb_n h
    obtain ⟨M0_5, e_M0_5, h⟩ := wb_v h
    have f_M0_5 := Eqo.eq e_M0_5 (Eqo.m (by decide) f_M0_4)
    obtain ⟨-, h⟩ := wb_n h
    obtain ⟨M0_6, e_M0_6, h⟩ := wb_v h
    have f_M0_6 := Eqo.eq e_M0_6 (Eqo.m (by decide) f_M0_5)
    obtain ⟨-, h⟩ := wb_n h
    obtain ⟨M0_7, e_M0_7, h⟩ := wb_v h
    have f_M0_7 := Eqo.eq e_M0_7 (Eqo.m (by decide) f_M0_6)
    obtain ⟨-, h⟩ := wb_n h
    obtain ⟨M0_8, e_M0_8, h⟩ := wb_v h
    have f_M0_8 := Eqo.eq e_M0_8 (Eqo.m (by decide) f_M0_7)
    obtain ⟨-, h⟩ := wb_n h
    obtain ⟨M0_9, e_M0_9, h⟩ := wb_v h
    have f_M0_9 := Eqo.eq e_M0_9 (Eqo.m (by decide) f_M0_8)
    have h := Option.some.inj h
    subst h
    exact ⟨f_I0_2, f_M0_9⟩
theorem fr_fX12_seek_J34 {N : Nat} {x1 : Int32} {x2 : Int32} {x3 : Int32} {x4 : Int32} {I0_j34 : Nat → Int32} {L0_j34 : Int64} {M0_j34 : Nat → Nat → Int32} {R} (h : fX12_seek_J34 N x1 x2 x3 x4 I0_j34 L0_j34 M0_j34 = some R) : Eqo fwI_X12_seek R.1 I0_j34 ∧ Eqo fwM_X12_seek R.2.2 M0_j34 := by
  unfold fX12_seek_J34 at h
  have a1 := fr_fX12_seek_J35 h
  exact ⟨a1.1.tr (by decide) (Eqo.refl fwI_X12_seek I0_j34), a1.2.tr (by decide) (Eqo.refl fwM_X12_seek M0_j34)⟩
theorem fr_fX12_seek {N : Nat} {I0 : Nat → Int32} {L0 : Int64} {M0 : Nat → Nat → Int32} {x1 : Int32} {x2 : Int32} {x3 : Int32} {x4 : Int32} {R} (h : fX12_seek N I0 L0 M0 x1 x2 x3 x4 = some R) : Eqo fwI_X12_seek R.1 I0 ∧ Eqo fwM_X12_seek R.2.2 M0 := by
  unfold fX12_seek at h
  obtain ⟨r10, e_r10, h⟩ := wb_b h
  have a1 := fr_fX12_isWheel e_r10
  have fI_r10 := a1.1.tr (W := fwI_X12_seek) (by decide) (Eqo.refl fwI_X12_seek I0)
  have fM_r10 := a1.2.tr (W := fwM_X12_seek) (by decide) (Eqo.refl fwM_X12_seek M0)
  rcases fr_i h with h | h
  · have h := Option.some.inj h
    subst h
    exact ⟨fI_r10, fM_r10⟩
  · obtain ⟨r11, -, h⟩ := wb_b h
    rcases fr_i h with h | h
    · have a2 := fr_fX12_seek_J34 h
      exact ⟨a2.1.tr (by decide) fI_r10, a2.2.tr (by decide) fM_r10⟩
    · obtain ⟨r12, -, h⟩ := wb_b h
      rcases fr_i h with h | h
      · have a3 := fr_fX12_seek_J34 h
        exact ⟨a3.1.tr (by decide) fI_r10, a3.2.tr (by decide) fM_r10⟩
      · have a4 := fr_fX12_seek_J35 h
        exact ⟨a4.1.tr (by decide) fI_r10, a4.2.tr (by decide) fM_r10⟩
abbrev fwI_X12_on : List Nat := [0]
abbrev fwM_X12_on : List Nat := [18]
theorem fr_fX12_on_J173 {N : Nat} {x1 : Int32} {g37 : (Nat → Int32) → Int64 → (Nat → Nat → Int32) → Int32 → Option (Int32 × (Nat → Int32) × Int64 × (Nat → Nat → Int32))} {I0_j173 : Nat → Int32} {L0_j173 : Int64} {M0_j173 : Nat → Nat → Int32} {y173_2 : Int32} (hg37 : ∀ q0 q1 q2 q3 R, g37 q0 q1 q2 q3 = some R → Eqo fwI_X12_on R.2.1 q0 ∧ Eqo fwM_X12_on R.2.2.2 q2) {R} (h : fX12_on_J173 N x1 g37 I0_j173 L0_j173 M0_j173 y173_2 = some R) : Eqo fwI_X12_on R.2.1 I0_j173 ∧ Eqo fwM_X12_on R.2.2.2 M0_j173 := by
  unfold fX12_on_J173 at h
  obtain ⟨-, h⟩ := wb_n h
  obtain ⟨-, h⟩ := wb_n h
  obtain ⟨M0_5, e_M0_5, h⟩ := wb_v h
  have f_M0_5 := Eqo.eq e_M0_5 (Eqo.m (by decide) (Eqo.refl fwM_X12_on M0_j173))
  obtain ⟨v6, -, h⟩ := wb_v h
  have a1 := hg37 _ _ _ _ _ h
  exact ⟨a1.1.tr (by decide) (Eqo.refl fwI_X12_on I0_j173), a1.2.tr (by decide) f_M0_5⟩
theorem fr_fX12_on_J144 {N : Nat} {x1 : Int32} {g37 : (Nat → Int32) → Int64 → (Nat → Nat → Int32) → Int32 → Option (Int32 × (Nat → Int32) × Int64 × (Nat → Nat → Int32))} {I0_j144 : Nat → Int32} {L0_j144 : Int64} {M0_j144 : Nat → Nat → Int32} {y144_2 : Int32} {y144_3 : Int32} {y144_4 : Int32} (hg37 : ∀ q0 q1 q2 q3 R, g37 q0 q1 q2 q3 = some R → Eqo fwI_X12_on R.2.1 q0 ∧ Eqo fwM_X12_on R.2.2.2 q2) {R} (h : fX12_on_J144 N x1 g37 I0_j144 L0_j144 M0_j144 y144_2 y144_3 y144_4 = some R) : Eqo fwI_X12_on R.2.1 I0_j144 ∧ Eqo fwM_X12_on R.2.2.2 M0_j144 := by
  unfold fX12_on_J144 at h
  obtain ⟨-, h⟩ := wb_n h
  rcases fr_i h with h | h
  · obtain ⟨-, h⟩ := wb_n h
    obtain ⟨-, h⟩ := wb_n h
    obtain ⟨M0_7, e_M0_7, h⟩ := wb_v h
    have f_M0_7 := Eqo.eq e_M0_7 (Eqo.m (by decide) (Eqo.refl fwM_X12_on M0_j144))
    obtain ⟨-, h⟩ := wb_n h
    obtain ⟨M0_8, e_M0_8, h⟩ := wb_v h
    have f_M0_8 := Eqo.eq e_M0_8 (Eqo.m (by decide) f_M0_7)
    have a1 := fr_fX12_on_J173 hg37 h
    exact ⟨a1.1.tr (by decide) (Eqo.refl fwI_X12_on I0_j144), a1.2.tr (by decide) f_M0_8⟩
  · have a2 := fr_fX12_on_J173 hg37 h
    exact ⟨a2.1.tr (by decide) (Eqo.refl fwI_X12_on I0_j144), a2.2.tr (by decide) (Eqo.refl fwM_X12_on M0_j144)⟩
theorem fr_fX12_on_J122 {N : Nat} {x1 : Int32} {g37 : (Nat → Int32) → Int64 → (Nat → Nat → Int32) → Int32 → Option (Int32 × (Nat → Int32) × Int64 × (Nat → Nat → Int32))} {I0_j122 : Nat → Int32} {L0_j122 : Int64} {M0_j122 : Nat → Nat → Int32} {y122_2 : Int32} {y122_3 : Int32} {y122_4 : Int32} (hg37 : ∀ q0 q1 q2 q3 R, g37 q0 q1 q2 q3 = some R → Eqo fwI_X12_on R.2.1 q0 ∧ Eqo fwM_X12_on R.2.2.2 q2) {R} (h : fX12_on_J122 N x1 g37 I0_j122 L0_j122 M0_j122 y122_2 y122_3 y122_4 = some R) : Eqo fwI_X12_on R.2.1 I0_j122 ∧ Eqo fwM_X12_on R.2.2.2 M0_j122 := by
  unfold fX12_on_J122 at h
  obtain ⟨-, h⟩ := wb_n h
  obtain ⟨M0_9, e_M0_9, h⟩ := wb_v h
  have f_M0_9 := Eqo.eq e_M0_9 (Eqo.m (by decide) (Eqo.refl fwM_X12_on M0_j122))
  obtain ⟨-, h⟩ := wb_n h
  obtain ⟨M0_10, e_M0_10, h⟩ := wb_v h
  have f_M0_10 := Eqo.eq e_M0_10 (Eqo.m (by decide) f_M0_9)
  obtain ⟨-, h⟩ := wb_n h
  obtain ⟨M0_11, e_M0_11, h⟩ := wb_v h
  have f_M0_11 := Eqo.eq e_M0_11 (Eqo.m (by decide) f_M0_10)
  have a1 := fr_fX12_on_J144 hg37 h
  exact ⟨a1.1.tr (by decide) (Eqo.refl fwI_X12_on I0_j122), a1.2.tr (by decide) f_M0_11⟩
theorem fr_fX12_on_J96 {N : Nat} {x1 : Int32} {g37 : (Nat → Int32) → Int64 → (Nat → Nat → Int32) → Int32 → Option (Int32 × (Nat → Int32) × Int64 × (Nat → Nat → Int32))} {I0_j96 : Nat → Int32} {L0_j96 : Int64} {M0_j96 : Nat → Nat → Int32} {y96_2 : Int32} {y96_3 : Int32} {z96_0 : Int32} {z96_1 : Int32} {z96_2 : Int32} {z96_3 : Int32} (hg37 : ∀ q0 q1 q2 q3 R, g37 q0 q1 q2 q3 = some R → Eqo fwI_X12_on R.2.1 q0 ∧ Eqo fwM_X12_on R.2.2.2 q2) {R} (h : fX12_on_J96 N x1 g37 I0_j96 L0_j96 M0_j96 y96_2 y96_3 z96_0 z96_1 z96_2 z96_3 = some R) : Eqo fwI_X12_on R.2.1 I0_j96 ∧ Eqo fwM_X12_on R.2.2.2 M0_j96 := by
  unfold fX12_on_J96 at h
  obtain ⟨r12, -, h⟩ := wb_b h
  obtain ⟨-, h⟩ := wb_n h
  rcases fr_i h with h | h
  · have a1 := fr_fX12_on_J122 hg37 h
    exact ⟨a1.1.tr (by decide) (Eqo.refl fwI_X12_on I0_j96), a1.2.tr (by decide) (Eqo.refl fwM_X12_on M0_j96)⟩
  · obtain ⟨-, h⟩ := wb_n h
    rcases fr_i h with h | h
    · have a2 := fr_fX12_on_J144 hg37 h
      exact ⟨a2.1.tr (by decide) (Eqo.refl fwI_X12_on I0_j96), a2.2.tr (by decide) (Eqo.refl fwM_X12_on M0_j96)⟩
    · have a3 := fr_fX12_on_J122 hg37 h
      exact ⟨a3.1.tr (by decide) (Eqo.refl fwI_X12_on I0_j96), a3.2.tr (by decide) (Eqo.refl fwM_X12_on M0_j96)⟩
theorem fr_fX12_on_L37 {N : Nat} {x1 : Int32} : ∀ fu I0_l37 L0_l37 M0_l37 y37_2 R, fX12_on_L37 N x1 fu I0_l37 L0_l37 M0_l37 y37_2 = some R → Eqo fwI_X12_on R.2.1 I0_l37 ∧ Eqo fwM_X12_on R.2.2.2 M0_l37 := by
  intro fu
  induction fu with
  | zero => intro I0_l37 L0_l37 M0_l37 y37_2 R h; cases (show none = some R from h)
  | succ fu ih =>
    intro I0_l37 L0_l37 M0_l37 y37_2 R h
    rw [fX12_on_L37.eq_2] at h
    rcases fr_i h with h | h
    · have h := Option.some.inj h
      subst h
      exact ⟨(Eqo.refl fwI_X12_on I0_l37), (Eqo.refl fwM_X12_on M0_l37)⟩
    · obtain ⟨-, h⟩ := wb_n h
      rcases fr_i h with h | h
      · have h := Option.some.inj h
        subst h
        exact ⟨(Eqo.refl fwI_X12_on I0_l37), (Eqo.refl fwM_X12_on M0_l37)⟩
      · obtain ⟨-, h⟩ := wb_n h
        obtain ⟨v13, -, h⟩ := wb_v h
        obtain ⟨-, h⟩ := wb_n h
        obtain ⟨-, h⟩ := wb_n h
        obtain ⟨-, h⟩ := wb_n h
        rcases fr_i h with h | h
        · have c103 : ∀ q0 q1 q2 q3 R, (fX12_on_L37 N x1 fu q0 q1 q2 q3) = some R → Eqo fwI_X12_on R.2.1 q0 ∧ Eqo fwM_X12_on R.2.2.2 q2 := by
              intro q0 q1 q2 q3 R h
              have a102 := ih _ _ _ _ _ h
              exact ⟨a102.1.tr (by decide) (Eqo.refl fwI_X12_on q0), a102.2.tr (by decide) (Eqo.refl fwM_X12_on q2)⟩
          have a1 := fr_fX12_on_J96 c103 h
          exact ⟨a1.1.tr (by decide) (Eqo.refl fwI_X12_on I0_l37), a1.2.tr (by decide) (Eqo.refl fwM_X12_on M0_l37)⟩
        · obtain ⟨-, h⟩ := wb_n h
          have c206 : ∀ q0 q1 q2 q3 R, (fX12_on_L37 N x1 fu q0 q1 q2 q3) = some R → Eqo fwI_X12_on R.2.1 q0 ∧ Eqo fwM_X12_on R.2.2.2 q2 := by
              intro q0 q1 q2 q3 R h
              have a205 := ih _ _ _ _ _ h
              exact ⟨a205.1.tr (by decide) (Eqo.refl fwI_X12_on q0), a205.2.tr (by decide) (Eqo.refl fwM_X12_on q2)⟩
          have a104 := fr_fX12_on_J96 c206 h
          exact ⟨a104.1.tr (by decide) (Eqo.refl fwI_X12_on I0_l37), a104.2.tr (by decide) (Eqo.refl fwM_X12_on M0_l37)⟩
theorem fr_fX12_on {N : Nat} {I0 : Nat → Int32} {L0 : Int64} {M0 : Nat → Nat → Int32} {x1 : Int32} {R} (h : fX12_on N I0 L0 M0 x1 = some R) : Eqo fwI_X12_on R.2.1 I0 ∧ Eqo fwM_X12_on R.2.2.2 M0 := by
  unfold fX12_on at h
  obtain ⟨I0_1, e_I0_1, h⟩ := wb_v h
  have f_I0_1 := Eqo.eq e_I0_1 (Eqo.u (by decide) (Eqo.refl fwI_X12_on I0))
  obtain ⟨r2, e_r2, h⟩ := wb_b h
  have a1 := fr_fX12_right e_r2
  have fI_r2 := a1.1.tr (W := fwI_X12_on) (by decide) f_I0_1
  have fM_r2 := a1.2.tr (W := fwM_X12_on) (by decide) (Eqo.refl fwM_X12_on M0)
  rcases fr_i h with h | h
  · have h := Option.some.inj h
    subst h
    exact ⟨fI_r2, fM_r2⟩
  · obtain ⟨r3, -, h⟩ := wb_b h
    obtain ⟨r4, e_r4, h⟩ := wb_b h
    have a2 := fr_fX12_right e_r4
    have fI_r4 := a2.1.tr (W := fwI_X12_on) (by decide) fI_r2
    have fM_r4 := a2.2.tr (W := fwM_X12_on) (by decide) fM_r2
    rcases fr_i h with h | h
    · have h := Option.some.inj h
      subst h
      exact ⟨fI_r4, fM_r4⟩
    · have a3 := fr_fX12_on_L37 _ _ _ _ _ _ h
      exact ⟨a3.1.tr (by decide) fI_r4, a3.2.tr (by decide) fM_r4⟩
abbrev fwI_X12_held : List Nat := [0]
abbrev fwM_X12_held : List Nat := []
theorem fr_fX12_held_J27 {N : Nat} {x1 : Int32} {I0_j27 : Nat → Int32} {L0_j27 : Int64} {M0_j27 : Nat → Nat → Int32} {z27_0 : Int32} {R} (h : fX12_held_J27 N x1 I0_j27 L0_j27 M0_j27 z27_0 = some R) : Eqo fwI_X12_held R.2.1 I0_j27 ∧ Eqo fwM_X12_held R.2.2.2 M0_j27 := by
  unfold fX12_held_J27 at h
  obtain ⟨r1, e_r1, h⟩ := wb_b h
  have a1 := fr_fX12_right e_r1
  have fI_r1 := a1.1.tr (W := fwI_X12_held) (by decide) (Eqo.refl fwI_X12_held I0_j27)
  have fM_r1 := a1.2.tr (W := fwM_X12_held) (by decide) (Eqo.refl fwM_X12_held M0_j27)
  rcases fr_i h with h | h
  · have h := Option.some.inj h
    subst h
    exact ⟨fI_r1, fM_r1⟩
  · obtain ⟨-, h⟩ := wb_n h
    have h := Option.some.inj h
    subst h
    exact ⟨fI_r1, fM_r1⟩
theorem fr_fX12_held_J26 {N : Nat} {x1 : Int32} {I0_j26 : Nat → Int32} {L0_j26 : Int64} {M0_j26 : Nat → Nat → Int32} {R} (h : fX12_held_J26 N x1 I0_j26 L0_j26 M0_j26 = some R) : Eqo fwI_X12_held R.2.1 I0_j26 ∧ Eqo fwM_X12_held R.2.2.2 M0_j26 := by
  unfold fX12_held_J26 at h
  have a1 := fr_fX12_held_J27 h
  exact ⟨a1.1.tr (by decide) (Eqo.refl fwI_X12_held I0_j26), a1.2.tr (by decide) (Eqo.refl fwM_X12_held M0_j26)⟩
theorem fr_fX12_held {N : Nat} {I0 : Nat → Int32} {L0 : Int64} {M0 : Nat → Nat → Int32} {x1 : Int32} {R} (h : fX12_held N I0 L0 M0 x1 = some R) : Eqo fwI_X12_held R.2.1 I0 ∧ Eqo fwM_X12_held R.2.2.2 M0 := by
  unfold fX12_held at h
  obtain ⟨I0_2, e_I0_2, h⟩ := wb_v h
  have f_I0_2 := Eqo.eq e_I0_2 (Eqo.u (by decide) (Eqo.refl fwI_X12_held I0))
  rcases fr_i h with h | h
  · have a1 := fr_fX12_held_J26 h
    exact ⟨a1.1.tr (by decide) f_I0_2, a1.2.tr (by decide) (Eqo.refl fwM_X12_held M0)⟩
  · obtain ⟨r3, -, h⟩ := wb_b h
    rcases fr_i h with h | h
    · have a2 := fr_fX12_held_J26 h
      exact ⟨a2.1.tr (by decide) f_I0_2, a2.2.tr (by decide) (Eqo.refl fwM_X12_held M0)⟩
    · have a3 := fr_fX12_held_J27 h
      exact ⟨a3.1.tr (by decide) f_I0_2, a3.2.tr (by decide) (Eqo.refl fwM_X12_held M0)⟩
abbrev fwI_X12_image : List Nat := [0, 17]
abbrev fwM_X12_image : List Nat := [19]
theorem fr_fX12_image {N : Nat} {I0 : Nat → Int32} {L0 : Int64} {M0 : Nat → Nat → Int32} {R} (h : fX12_image N I0 L0 M0 = some R) : Eqo fwI_X12_image R.2.1 I0 ∧ Eqo fwM_X12_image R.2.2.2 M0 := by
  unfold fX12_image at h
  obtain ⟨I0_1, e_I0_1, h⟩ := wb_v h
  have f_I0_1 := Eqo.eq e_I0_1 (Eqo.u (by decide) (Eqo.refl fwI_X12_image I0))
  rcases fr_i h with h | h
  · have h := Option.some.inj h
    subst h
    exact ⟨f_I0_1, (Eqo.refl fwM_X12_image M0)⟩
  · obtain ⟨I0_2, e_I0_2, h⟩ := wb_v h
    have f_I0_2 := Eqo.eq e_I0_2 (Eqo.u (by decide) f_I0_1)
    obtain ⟨r3, -, h⟩ := wb_b h
    obtain ⟨M0_4, e_M0_4, h⟩ := wb_v h
    have f_M0_4 := Eqo.eq e_M0_4 (Eqo.mm (by decide) (Eqo.refl fwM_X12_image M0))
    have h := Option.some.inj h
    subst h
    exact ⟨f_I0_2, f_M0_4⟩
abbrev fwI_X12_restore : List Nat := [0, 16]
abbrev fwM_X12_restore : List Nat := [18]
theorem fr_fX12_restore {N : Nat} {I0 : Nat → Int32} {L0 : Int64} {M0 : Nat → Nat → Int32} {R} (h : fX12_restore N I0 L0 M0 = some R) : Eqo fwI_X12_restore R.2.1 I0 ∧ Eqo fwM_X12_restore R.2.2.2 M0 := by
  unfold fX12_restore at h
  obtain ⟨I0_1, e_I0_1, h⟩ := wb_v h
  have f_I0_1 := Eqo.eq e_I0_1 (Eqo.u (by decide) (Eqo.refl fwI_X12_restore I0))
  rcases fr_i h with h | h
  · have h := Option.some.inj h
    subst h
    exact ⟨f_I0_1, (Eqo.refl fwM_X12_restore M0)⟩
  · obtain ⟨I0_2, e_I0_2, h⟩ := wb_v h
    have f_I0_2 := Eqo.eq e_I0_2 (Eqo.u (by decide) f_I0_1)
    obtain ⟨r3, -, h⟩ := wb_b h
    obtain ⟨M0_4, e_M0_4, h⟩ := wb_v h
    have f_M0_4 := Eqo.eq e_M0_4 (Eqo.mm (by decide) (Eqo.refl fwM_X12_restore M0))
    have h := Option.some.inj h
    subst h
    exact ⟨f_I0_2, f_M0_4⟩
abbrev fwI_X12_misread : List Nat := [0]
abbrev fwM_X12_misread : List Nat := []
theorem fr_fX12_misread_J46 {N : Nat} {x1 : Int32} {x2 : Int32} {x3 : Int32} {x4 : Int32} {x5 : Int32} {I0_j46 : Nat → Int32} {L0_j46 : Int64} {M0_j46 : Nat → Nat → Int32} {z46_0 : Int32} {R} (h : fX12_misread_J46 N x1 x2 x3 x4 x5 I0_j46 L0_j46 M0_j46 z46_0 = some R) : Eqo fwI_X12_misread R.2.1 I0_j46 ∧ Eqo fwM_X12_misread R.2.2.2 M0_j46 := by
  unfold fX12_misread_J46 at h
  obtain ⟨r1, e_r1, h⟩ := wb_b h
  have a1 := fr_fX12_right e_r1
  have fI_r1 := a1.1.tr (W := fwI_X12_misread) (by decide) (Eqo.refl fwI_X12_misread I0_j46)
  have fM_r1 := a1.2.tr (W := fwM_X12_misread) (by decide) (Eqo.refl fwM_X12_misread M0_j46)
  rcases fr_i h with h | h
  · have h := Option.some.inj h
    subst h
    exact ⟨fI_r1, fM_r1⟩
  · obtain ⟨r2, -, h⟩ := wb_b h
    rcases fr_i h with h | h
    · have h := Option.some.inj h
      subst h
      exact ⟨fI_r1, fM_r1⟩
    · obtain ⟨r3, -, h⟩ := wb_b h
      obtain ⟨r4, -, h⟩ := wb_b h
      have h := Option.some.inj h
      subst h
      exact ⟨fI_r1, fM_r1⟩
theorem fr_fX12_misread_J45 {N : Nat} {x1 : Int32} {x2 : Int32} {x3 : Int32} {x4 : Int32} {x5 : Int32} {I0_j45 : Nat → Int32} {L0_j45 : Int64} {M0_j45 : Nat → Nat → Int32} {R} (h : fX12_misread_J45 N x1 x2 x3 x4 x5 I0_j45 L0_j45 M0_j45 = some R) : Eqo fwI_X12_misread R.2.1 I0_j45 ∧ Eqo fwM_X12_misread R.2.2.2 M0_j45 := by
  unfold fX12_misread_J45 at h
  have a1 := fr_fX12_misread_J46 h
  exact ⟨a1.1.tr (by decide) (Eqo.refl fwI_X12_misread I0_j45), a1.2.tr (by decide) (Eqo.refl fwM_X12_misread M0_j45)⟩
theorem fr_fX12_misread {N : Nat} {I0 : Nat → Int32} {L0 : Int64} {M0 : Nat → Nat → Int32} {x1 : Int32} {x2 : Int32} {x3 : Int32} {x4 : Int32} {x5 : Int32} {R} (h : fX12_misread N I0 L0 M0 x1 x2 x3 x4 x5 = some R) : Eqo fwI_X12_misread R.2.1 I0 ∧ Eqo fwM_X12_misread R.2.2.2 M0 := by
  unfold fX12_misread at h
  obtain ⟨r5, e_r5, h⟩ := wb_b h
  have a1 := fr_fX12_isWheel e_r5
  have fI_r5 := a1.1.tr (W := fwI_X12_misread) (by decide) (Eqo.refl fwI_X12_misread I0)
  have fM_r5 := a1.2.tr (W := fwM_X12_misread) (by decide) (Eqo.refl fwM_X12_misread M0)
  rcases fr_i h with h | h
  · have h := Option.some.inj h
    subst h
    exact ⟨fI_r5, fM_r5⟩
  · obtain ⟨r6, -, h⟩ := wb_b h
    rcases fr_i h with h | h
    · have a2 := fr_fX12_misread_J45 h
      exact ⟨a2.1.tr (by decide) fI_r5, a2.2.tr (by decide) fM_r5⟩
    · obtain ⟨r7, -, h⟩ := wb_b h
      rcases fr_i h with h | h
      · have a3 := fr_fX12_misread_J45 h
        exact ⟨a3.1.tr (by decide) fI_r5, a3.2.tr (by decide) fM_r5⟩
      · obtain ⟨r8, -, h⟩ := wb_b h
        rcases fr_i h with h | h
        · have a4 := fr_fX12_misread_J45 h
          exact ⟨a4.1.tr (by decide) fI_r5, a4.2.tr (by decide) fM_r5⟩
        · have a5 := fr_fX12_misread_J46 h
          exact ⟨a5.1.tr (by decide) fI_r5, a5.2.tr (by decide) fM_r5⟩
abbrev fwI_X12_errors : List Nat := [0]
abbrev fwM_X12_errors : List Nat := [20, 21, 22]
theorem fr_fX12_errors_L340 {N : Nat} {x1 : Int32} {x2 : Int32} {x3 : Int32} {x4 : Int32} {g51 : (Nat → Int32) → Int64 → (Nat → Nat → Int32) → Int32 → Option (Int32 × (Nat → Int32) × Int64 × (Nat → Nat → Int32))} {g90 : (Nat → Int32) → Int64 → (Nat → Nat → Int32) → Int32 → Int32 → Option (Int32 × (Nat → Int32) × Int64 × (Nat → Nat → Int32))} (hg51 : ∀ q0 q1 q2 q3 R, g51 q0 q1 q2 q3 = some R → Eqo fwI_X12_errors R.2.1 q0 ∧ Eqo fwM_X12_errors R.2.2.2 q2) (hg90 : ∀ q0 q1 q2 q3 q4 R, g90 q0 q1 q2 q3 q4 = some R → Eqo fwI_X12_errors R.2.1 q0 ∧ Eqo fwM_X12_errors R.2.2.2 q2) : ∀ fu I0_l340 L0_l340 M0_l340 y340_6 y340_7 R, fX12_errors_L340 N x1 x2 x3 x4 g51 g90 fu I0_l340 L0_l340 M0_l340 y340_6 y340_7 = some R → Eqo fwI_X12_errors R.2.1 I0_l340 ∧ Eqo fwM_X12_errors R.2.2.2 M0_l340 := by
  intro fu
  induction fu with
  | zero => intro I0_l340 L0_l340 M0_l340 y340_6 y340_7 R h; cases (show none = some R from h)
  | succ fu ih =>
    intro I0_l340 L0_l340 M0_l340 y340_6 y340_7 R h
    rw [fX12_errors_L340.eq_2] at h
    rcases fr_i h with h | h
    · obtain ⟨-, h⟩ := wb_n h
      rcases fr_i h with h | h
      · have h := Option.some.inj h
        subst h
        exact ⟨(Eqo.refl fwI_X12_errors I0_l340), (Eqo.refl fwM_X12_errors M0_l340)⟩
      · have h := Option.some.inj h
        subst h
        exact ⟨(Eqo.refl fwI_X12_errors I0_l340), (Eqo.refl fwM_X12_errors M0_l340)⟩
    · obtain ⟨-, h⟩ := wb_n h
      obtain ⟨-, h⟩ := wb_n h
      rcases fr_i h with h | h
      · obtain ⟨v2, -, h⟩ := wb_v h
        have a1 := ih _ _ _ _ _ _ h
        exact ⟨a1.1.tr (by decide) (Eqo.refl fwI_X12_errors I0_l340), a1.2.tr (by decide) (Eqo.refl fwM_X12_errors M0_l340)⟩
      · obtain ⟨v3, -, h⟩ := wb_v h
        have a2 := ih _ _ _ _ _ _ h
        exact ⟨a2.1.tr (by decide) (Eqo.refl fwI_X12_errors I0_l340), a2.2.tr (by decide) (Eqo.refl fwM_X12_errors M0_l340)⟩
theorem fr_fX12_errors_J243 {N : Nat} {x1 : Int32} {x2 : Int32} {x3 : Int32} {x4 : Int32} {r4 : Int32} {v7 : Int32} {y145_8 : Int32} {y90_6 : Int32} {g51 : (Nat → Int32) → Int64 → (Nat → Nat → Int32) → Int32 → Option (Int32 × (Nat → Int32) × Int64 × (Nat → Nat → Int32))} {g90 : (Nat → Int32) → Int64 → (Nat → Nat → Int32) → Int32 → Int32 → Option (Int32 × (Nat → Int32) × Int64 × (Nat → Nat → Int32))} {g145 : (Nat → Int32) → Int64 → (Nat → Nat → Int32) → Int32 → Int32 → Option (Int32 × (Nat → Int32) × Int64 × (Nat → Nat → Int32))} {g187 : (Nat → Int32) → Int64 → (Nat → Nat → Int32) → Int32 → Option (Int32 × (Nat → Int32) × Int64 × (Nat → Nat → Int32))} {I0_j243 : Nat → Int32} {L0_j243 : Int64} {M0_j243 : Nat → Nat → Int32} {y243_9 : Int32} {z243_0 : Int32} {z243_1 : Int32} {z243_2 : Int32} (hg51 : ∀ q0 q1 q2 q3 R, g51 q0 q1 q2 q3 = some R → Eqo fwI_X12_errors R.2.1 q0 ∧ Eqo fwM_X12_errors R.2.2.2 q2) (hg90 : ∀ q0 q1 q2 q3 q4 R, g90 q0 q1 q2 q3 q4 = some R → Eqo fwI_X12_errors R.2.1 q0 ∧ Eqo fwM_X12_errors R.2.2.2 q2) (hg145 : ∀ q0 q1 q2 q3 q4 R, g145 q0 q1 q2 q3 q4 = some R → Eqo fwI_X12_errors R.2.1 q0 ∧ Eqo fwM_X12_errors R.2.2.2 q2) (hg187 : ∀ q0 q1 q2 q3 R, g187 q0 q1 q2 q3 = some R → Eqo fwI_X12_errors R.2.1 q0 ∧ Eqo fwM_X12_errors R.2.2.2 q2) {R} (h : fX12_errors_J243 N x1 x2 x3 x4 r4 v7 y145_8 y90_6 g51 g90 g145 g187 I0_j243 L0_j243 M0_j243 y243_9 z243_0 z243_1 z243_2 = some R) : Eqo fwI_X12_errors R.2.1 I0_j243 ∧ Eqo fwM_X12_errors R.2.2.2 M0_j243 := by
  unfold fX12_errors_J243 at h
  obtain ⟨-, h⟩ := wb_n h
  obtain ⟨M0_8, e_M0_8, h⟩ := wb_v h
  have f_M0_8 := Eqo.eq e_M0_8 (Eqo.m (by decide) (Eqo.refl fwM_X12_errors M0_j243))
  obtain ⟨-, h⟩ := wb_n h
  obtain ⟨-, h⟩ := wb_n h
  obtain ⟨-, h⟩ := wb_n h
  obtain ⟨M0_9, e_M0_9, h⟩ := wb_v h
  have f_M0_9 := Eqo.eq e_M0_9 (Eqo.m (by decide) f_M0_8)
  obtain ⟨v10, -, h⟩ := wb_v h
  have a1 := hg187 _ _ _ _ _ h
  exact ⟨a1.1.tr (by decide) (Eqo.refl fwI_X12_errors I0_j243), a1.2.tr (by decide) f_M0_9⟩
theorem fr_fX12_errors_L187 {N : Nat} {x1 : Int32} {x2 : Int32} {x3 : Int32} {x4 : Int32} {r4 : Int32} {v7 : Int32} {y145_8 : Int32} {y90_6 : Int32} {g51 : (Nat → Int32) → Int64 → (Nat → Nat → Int32) → Int32 → Option (Int32 × (Nat → Int32) × Int64 × (Nat → Nat → Int32))} {g90 : (Nat → Int32) → Int64 → (Nat → Nat → Int32) → Int32 → Int32 → Option (Int32 × (Nat → Int32) × Int64 × (Nat → Nat → Int32))} {g145 : (Nat → Int32) → Int64 → (Nat → Nat → Int32) → Int32 → Int32 → Option (Int32 × (Nat → Int32) × Int64 × (Nat → Nat → Int32))} (hg51 : ∀ q0 q1 q2 q3 R, g51 q0 q1 q2 q3 = some R → Eqo fwI_X12_errors R.2.1 q0 ∧ Eqo fwM_X12_errors R.2.2.2 q2) (hg90 : ∀ q0 q1 q2 q3 q4 R, g90 q0 q1 q2 q3 q4 = some R → Eqo fwI_X12_errors R.2.1 q0 ∧ Eqo fwM_X12_errors R.2.2.2 q2) (hg145 : ∀ q0 q1 q2 q3 q4 R, g145 q0 q1 q2 q3 q4 = some R → Eqo fwI_X12_errors R.2.1 q0 ∧ Eqo fwM_X12_errors R.2.2.2 q2) : ∀ fu I0_l187 L0_l187 M0_l187 y187_9 R, fX12_errors_L187 N x1 x2 x3 x4 r4 v7 y145_8 y90_6 g51 g90 g145 fu I0_l187 L0_l187 M0_l187 y187_9 = some R → Eqo fwI_X12_errors R.2.1 I0_l187 ∧ Eqo fwM_X12_errors R.2.2.2 M0_l187 := by
  intro fu
  induction fu with
  | zero => intro I0_l187 L0_l187 M0_l187 y187_9 R h; cases (show none = some R from h)
  | succ fu ih =>
    intro I0_l187 L0_l187 M0_l187 y187_9 R h
    rw [fX12_errors_L187.eq_2] at h
    rcases fr_i h with h | h
    · obtain ⟨v11, -, h⟩ := wb_v h
      have a1 := hg90 _ _ _ _ _ _ h
      exact ⟨a1.1.tr (by decide) (Eqo.refl fwI_X12_errors I0_l187), a1.2.tr (by decide) (Eqo.refl fwM_X12_errors M0_l187)⟩
    · obtain ⟨r12, -, h⟩ := wb_b h
      rcases fr_i h with h | h
      · obtain ⟨-, h⟩ := wb_n h
        obtain ⟨-, h⟩ := wb_n h
        obtain ⟨M0_13, e_M0_13, h⟩ := wb_v h
        have f_M0_13 := Eqo.eq e_M0_13 (Eqo.m (by decide) (Eqo.refl fwM_X12_errors M0_l187))
        obtain ⟨-, h⟩ := wb_n h
        rcases fr_i h with h | h
        · have c104 : ∀ q0 q1 q2 q3 R, (fX12_errors_L187 N x1 x2 x3 x4 r4 v7 y145_8 y90_6 g51 g90 g145 fu q0 q1 q2 q3) = some R → Eqo fwI_X12_errors R.2.1 q0 ∧ Eqo fwM_X12_errors R.2.2.2 q2 := by
              intro q0 q1 q2 q3 R h
              have a103 := ih _ _ _ _ _ h
              exact ⟨a103.1.tr (by decide) (Eqo.refl fwI_X12_errors q0), a103.2.tr (by decide) (Eqo.refl fwM_X12_errors q2)⟩
          have a2 := fr_fX12_errors_J243 hg51 hg90 hg145 c104 h
          exact ⟨a2.1.tr (by decide) (Eqo.refl fwI_X12_errors I0_l187), a2.2.tr (by decide) f_M0_13⟩
        · have c207 : ∀ q0 q1 q2 q3 R, (fX12_errors_L187 N x1 x2 x3 x4 r4 v7 y145_8 y90_6 g51 g90 g145 fu q0 q1 q2 q3) = some R → Eqo fwI_X12_errors R.2.1 q0 ∧ Eqo fwM_X12_errors R.2.2.2 q2 := by
              intro q0 q1 q2 q3 R h
              have a206 := ih _ _ _ _ _ h
              exact ⟨a206.1.tr (by decide) (Eqo.refl fwI_X12_errors q0), a206.2.tr (by decide) (Eqo.refl fwM_X12_errors q2)⟩
          have a105 := fr_fX12_errors_J243 hg51 hg90 hg145 c207 h
          exact ⟨a105.1.tr (by decide) (Eqo.refl fwI_X12_errors I0_l187), a105.2.tr (by decide) f_M0_13⟩
      · obtain ⟨v14, -, h⟩ := wb_v h
        have a208 := ih _ _ _ _ _ h
        exact ⟨a208.1.tr (by decide) (Eqo.refl fwI_X12_errors I0_l187), a208.2.tr (by decide) (Eqo.refl fwM_X12_errors M0_l187)⟩
theorem fr_fX12_errors_L145 {N : Nat} {x1 : Int32} {x2 : Int32} {x3 : Int32} {x4 : Int32} {r4 : Int32} {v7 : Int32} {y90_6 : Int32} {g51 : (Nat → Int32) → Int64 → (Nat → Nat → Int32) → Int32 → Option (Int32 × (Nat → Int32) × Int64 × (Nat → Nat → Int32))} {g90 : (Nat → Int32) → Int64 → (Nat → Nat → Int32) → Int32 → Int32 → Option (Int32 × (Nat → Int32) × Int64 × (Nat → Nat → Int32))} (hg51 : ∀ q0 q1 q2 q3 R, g51 q0 q1 q2 q3 = some R → Eqo fwI_X12_errors R.2.1 q0 ∧ Eqo fwM_X12_errors R.2.2.2 q2) (hg90 : ∀ q0 q1 q2 q3 q4 R, g90 q0 q1 q2 q3 q4 = some R → Eqo fwI_X12_errors R.2.1 q0 ∧ Eqo fwM_X12_errors R.2.2.2 q2) : ∀ fu I0_l145 L0_l145 M0_l145 y145_8 y145_9 R, fX12_errors_L145 N x1 x2 x3 x4 r4 v7 y90_6 g51 g90 fu I0_l145 L0_l145 M0_l145 y145_8 y145_9 = some R → Eqo fwI_X12_errors R.2.1 I0_l145 ∧ Eqo fwM_X12_errors R.2.2.2 M0_l145 := by
  intro fu
  induction fu with
  | zero => intro I0_l145 L0_l145 M0_l145 y145_8 y145_9 R h; cases (show none = some R from h)
  | succ fu ih =>
    intro I0_l145 L0_l145 M0_l145 y145_8 y145_9 R h
    rw [fX12_errors_L145.eq_2] at h
    rcases fr_i h with h | h
    · have c103 : ∀ q0 q1 q2 q3 q4 R, (fX12_errors_L145 N x1 x2 x3 x4 r4 v7 y90_6 g51 g90 fu q0 q1 q2 q3 q4) = some R → Eqo fwI_X12_errors R.2.1 q0 ∧ Eqo fwM_X12_errors R.2.2.2 q2 := by
          intro q0 q1 q2 q3 q4 R h
          have a102 := ih _ _ _ _ _ _ h
          exact ⟨a102.1.tr (by decide) (Eqo.refl fwI_X12_errors q0), a102.2.tr (by decide) (Eqo.refl fwM_X12_errors q2)⟩
      have a1 := fr_fX12_errors_L187 hg51 hg90 c103 _ _ _ _ _ _ h
      exact ⟨a1.1.tr (by decide) (Eqo.refl fwI_X12_errors I0_l145), a1.2.tr (by decide) (Eqo.refl fwM_X12_errors M0_l145)⟩
    · obtain ⟨r15, -, h⟩ := wb_b h
      rcases fr_i h with h | h
      · obtain ⟨v18, -, h⟩ := wb_v h
        obtain ⟨v19, -, h⟩ := wb_v h
        have a104 := ih _ _ _ _ _ _ h
        exact ⟨a104.1.tr (by decide) (Eqo.refl fwI_X12_errors I0_l145), a104.2.tr (by decide) (Eqo.refl fwM_X12_errors M0_l145)⟩
      · obtain ⟨v16, -, h⟩ := wb_v h
        obtain ⟨v17, -, h⟩ := wb_v h
        have a105 := ih _ _ _ _ _ _ h
        exact ⟨a105.1.tr (by decide) (Eqo.refl fwI_X12_errors I0_l145), a105.2.tr (by decide) (Eqo.refl fwM_X12_errors M0_l145)⟩
theorem fr_fX12_errors_L90 {N : Nat} {x1 : Int32} {x2 : Int32} {x3 : Int32} {x4 : Int32} {g51 : (Nat → Int32) → Int64 → (Nat → Nat → Int32) → Int32 → Option (Int32 × (Nat → Int32) × Int64 × (Nat → Nat → Int32))} (hg51 : ∀ q0 q1 q2 q3 R, g51 q0 q1 q2 q3 = some R → Eqo fwI_X12_errors R.2.1 q0 ∧ Eqo fwM_X12_errors R.2.2.2 q2) : ∀ fu I0_l90 L0_l90 M0_l90 y90_5 y90_6 R, fX12_errors_L90 N x1 x2 x3 x4 g51 fu I0_l90 L0_l90 M0_l90 y90_5 y90_6 = some R → Eqo fwI_X12_errors R.2.1 I0_l90 ∧ Eqo fwM_X12_errors R.2.2.2 M0_l90 := by
  intro fu
  induction fu with
  | zero => intro I0_l90 L0_l90 M0_l90 y90_5 y90_6 R h; cases (show none = some R from h)
  | succ fu ih =>
    intro I0_l90 L0_l90 M0_l90 y90_5 y90_6 R h
    rw [fX12_errors_L90.eq_2] at h
    rcases fr_i h with h | h
    · rcases fr_i h with h | h
      · have h := Option.some.inj h
        subst h
        exact ⟨(Eqo.refl fwI_X12_errors I0_l90), (Eqo.refl fwM_X12_errors M0_l90)⟩
      · rcases fr_i h with h | h
        · have c103 : ∀ q0 q1 q2 q3 q4 R, (fX12_errors_L90 N x1 x2 x3 x4 g51 fu q0 q1 q2 q3 q4) = some R → Eqo fwI_X12_errors R.2.1 q0 ∧ Eqo fwM_X12_errors R.2.2.2 q2 := by
              intro q0 q1 q2 q3 q4 R h
              have a102 := ih _ _ _ _ _ _ h
              exact ⟨a102.1.tr (by decide) (Eqo.refl fwI_X12_errors q0), a102.2.tr (by decide) (Eqo.refl fwM_X12_errors q2)⟩
          have a1 := fr_fX12_errors_L340 hg51 c103 _ _ _ _ _ _ _ h
          exact ⟨a1.1.tr (by decide) (Eqo.refl fwI_X12_errors I0_l90), a1.2.tr (by decide) (Eqo.refl fwM_X12_errors M0_l90)⟩
        · rcases fr_i h with h | h
          · rcases fr_i h with h | h
            · obtain ⟨-, h⟩ := wb_n h
              have h := Option.some.inj h
              subst h
              exact ⟨(Eqo.refl fwI_X12_errors I0_l90), (Eqo.refl fwM_X12_errors M0_l90)⟩
            · obtain ⟨-, h⟩ := wb_n h
              have h := Option.some.inj h
              subst h
              exact ⟨(Eqo.refl fwI_X12_errors I0_l90), (Eqo.refl fwM_X12_errors M0_l90)⟩
          · obtain ⟨-, h⟩ := wb_n h
            have h := Option.some.inj h
            subst h
            exact ⟨(Eqo.refl fwI_X12_errors I0_l90), (Eqo.refl fwM_X12_errors M0_l90)⟩
    · obtain ⟨r4, -, h⟩ := wb_b h
      rcases fr_i h with h | h
      · obtain ⟨v5, -, h⟩ := wb_v h
        have a104 := ih _ _ _ _ _ _ h
        exact ⟨a104.1.tr (by decide) (Eqo.refl fwI_X12_errors I0_l90), a104.2.tr (by decide) (Eqo.refl fwM_X12_errors M0_l90)⟩
      · obtain ⟨r6, -, h⟩ := wb_b h
        rcases fr_i h with h | h
        · obtain ⟨v20, -, h⟩ := wb_v h
          have a105 := ih _ _ _ _ _ _ h
          exact ⟨a105.1.tr (by decide) (Eqo.refl fwI_X12_errors I0_l90), a105.2.tr (by decide) (Eqo.refl fwM_X12_errors M0_l90)⟩
        · obtain ⟨v7, -, h⟩ := wb_v h
          have c208 : ∀ q0 q1 q2 q3 q4 R, (fX12_errors_L90 N x1 x2 x3 x4 g51 fu q0 q1 q2 q3 q4) = some R → Eqo fwI_X12_errors R.2.1 q0 ∧ Eqo fwM_X12_errors R.2.2.2 q2 := by
              intro q0 q1 q2 q3 q4 R h
              have a207 := ih _ _ _ _ _ _ h
              exact ⟨a207.1.tr (by decide) (Eqo.refl fwI_X12_errors q0), a207.2.tr (by decide) (Eqo.refl fwM_X12_errors q2)⟩
          have a106 := fr_fX12_errors_L145 hg51 c208 _ _ _ _ _ _ _ h
          exact ⟨a106.1.tr (by decide) (Eqo.refl fwI_X12_errors I0_l90), a106.2.tr (by decide) (Eqo.refl fwM_X12_errors M0_l90)⟩
theorem fr_fX12_errors_L51 {N : Nat} {x1 : Int32} {x2 : Int32} {x3 : Int32} {x4 : Int32} : ∀ fu I0_l51 L0_l51 M0_l51 y51_6 R, fX12_errors_L51 N x1 x2 x3 x4 fu I0_l51 L0_l51 M0_l51 y51_6 = some R → Eqo fwI_X12_errors R.2.1 I0_l51 ∧ Eqo fwM_X12_errors R.2.2.2 M0_l51 := by
  intro fu
  induction fu with
  | zero => intro I0_l51 L0_l51 M0_l51 y51_6 R h; cases (show none = some R from h)
  | succ fu ih =>
    intro I0_l51 L0_l51 M0_l51 y51_6 R h
    rw [fX12_errors_L51.eq_2] at h
    rcases fr_i h with h | h
    · have c103 : ∀ q0 q1 q2 q3 R, (fX12_errors_L51 N x1 x2 x3 x4 fu q0 q1 q2 q3) = some R → Eqo fwI_X12_errors R.2.1 q0 ∧ Eqo fwM_X12_errors R.2.2.2 q2 := by
          intro q0 q1 q2 q3 R h
          have a102 := ih _ _ _ _ _ h
          exact ⟨a102.1.tr (by decide) (Eqo.refl fwI_X12_errors q0), a102.2.tr (by decide) (Eqo.refl fwM_X12_errors q2)⟩
      have a1 := fr_fX12_errors_L90 c103 _ _ _ _ _ _ _ h
      exact ⟨a1.1.tr (by decide) (Eqo.refl fwI_X12_errors I0_l51), a1.2.tr (by decide) (Eqo.refl fwM_X12_errors M0_l51)⟩
    · obtain ⟨-, h⟩ := wb_n h
      obtain ⟨M0_21, e_M0_21, h⟩ := wb_v h
      have f_M0_21 := Eqo.eq e_M0_21 (Eqo.m (by decide) (Eqo.refl fwM_X12_errors M0_l51))
      obtain ⟨-, h⟩ := wb_n h
      obtain ⟨M0_22, e_M0_22, h⟩ := wb_v h
      have f_M0_22 := Eqo.eq e_M0_22 (Eqo.m (by decide) f_M0_21)
      obtain ⟨-, h⟩ := wb_n h
      obtain ⟨M0_23, e_M0_23, h⟩ := wb_v h
      have f_M0_23 := Eqo.eq e_M0_23 (Eqo.m (by decide) f_M0_22)
      obtain ⟨v24, -, h⟩ := wb_v h
      have a104 := ih _ _ _ _ _ h
      exact ⟨a104.1.tr (by decide) (Eqo.refl fwI_X12_errors I0_l51), a104.2.tr (by decide) f_M0_23⟩
theorem fr_fX12_errors_J36 {N : Nat} {x1 : Int32} {x2 : Int32} {x3 : Int32} {x4 : Int32} {I0_j36 : Nat → Int32} {L0_j36 : Int64} {M0_j36 : Nat → Nat → Int32} {z36_0 : Int32} {R} (h : fX12_errors_J36 N x1 x2 x3 x4 I0_j36 L0_j36 M0_j36 z36_0 = some R) : Eqo fwI_X12_errors R.2.1 I0_j36 ∧ Eqo fwM_X12_errors R.2.2.2 M0_j36 := by
  unfold fX12_errors_J36 at h
  obtain ⟨r1, e_r1, h⟩ := wb_b h
  have a1 := fr_fX12_right e_r1
  have fI_r1 := a1.1.tr (W := fwI_X12_errors) (by decide) (Eqo.refl fwI_X12_errors I0_j36)
  have fM_r1 := a1.2.tr (W := fwM_X12_errors) (by decide) (Eqo.refl fwM_X12_errors M0_j36)
  rcases fr_i h with h | h
  · have h := Option.some.inj h
    subst h
    exact ⟨fI_r1, fM_r1⟩
  · have a2 := fr_fX12_errors_L51 _ _ _ _ _ _ h
    exact ⟨a2.1.tr (by decide) fI_r1, a2.2.tr (by decide) fM_r1⟩
theorem fr_fX12_errors_J35 {N : Nat} {x1 : Int32} {x2 : Int32} {x3 : Int32} {x4 : Int32} {I0_j35 : Nat → Int32} {L0_j35 : Int64} {M0_j35 : Nat → Nat → Int32} {R} (h : fX12_errors_J35 N x1 x2 x3 x4 I0_j35 L0_j35 M0_j35 = some R) : Eqo fwI_X12_errors R.2.1 I0_j35 ∧ Eqo fwM_X12_errors R.2.2.2 M0_j35 := by
  unfold fX12_errors_J35 at h
  have a1 := fr_fX12_errors_J36 h
  exact ⟨a1.1.tr (by decide) (Eqo.refl fwI_X12_errors I0_j35), a1.2.tr (by decide) (Eqo.refl fwM_X12_errors M0_j35)⟩
theorem fr_fX12_errors {N : Nat} {I0 : Nat → Int32} {L0 : Int64} {M0 : Nat → Nat → Int32} {x1 : Int32} {x2 : Int32} {x3 : Int32} {x4 : Int32} {R} (h : fX12_errors N I0 L0 M0 x1 x2 x3 x4 = some R) : Eqo fwI_X12_errors R.2.1 I0 ∧ Eqo fwM_X12_errors R.2.2.2 M0 := by
  unfold fX12_errors at h
  obtain ⟨r25, e_r25, h⟩ := wb_b h
  have a1 := fr_fX12_isWheel e_r25
  have fI_r25 := a1.1.tr (W := fwI_X12_errors) (by decide) (Eqo.refl fwI_X12_errors I0)
  have fM_r25 := a1.2.tr (W := fwM_X12_errors) (by decide) (Eqo.refl fwM_X12_errors M0)
  rcases fr_i h with h | h
  · have h := Option.some.inj h
    subst h
    exact ⟨fI_r25, fM_r25⟩
  · obtain ⟨r26, -, h⟩ := wb_b h
    rcases fr_i h with h | h
    · have a2 := fr_fX12_errors_J35 h
      exact ⟨a2.1.tr (by decide) fI_r25, a2.2.tr (by decide) fM_r25⟩
    · obtain ⟨r27, -, h⟩ := wb_b h
      rcases fr_i h with h | h
      · have a3 := fr_fX12_errors_J35 h
        exact ⟨a3.1.tr (by decide) fI_r25, a3.2.tr (by decide) fM_r25⟩
      · have a4 := fr_fX12_errors_J36 h
        exact ⟨a4.1.tr (by decide) fI_r25, a4.2.tr (by decide) fM_r25⟩
abbrev fwI_X12_isClimate : List Nat := [0]
abbrev fwM_X12_isClimate : List Nat := []
theorem fr_fX12_isClimate {N : Nat} {I0 : Nat → Int32} {L0 : Int64} {M0 : Nat → Nat → Int32} {x1 : Int32} {x2 : Int32} {R} (h : fX12_isClimate N I0 L0 M0 x1 x2 = some R) : Eqo fwI_X12_isClimate R.2.1 I0 ∧ Eqo fwM_X12_isClimate R.2.2.2 M0 := by
  unfold fX12_isClimate at h
  rcases fr_i h with h | h
  · obtain ⟨r1, e_r1, h⟩ := wb_b h
    have a1 := fr_fX12_right e_r1
    have fI_r1 := a1.1.tr (W := fwI_X12_isClimate) (by decide) (Eqo.refl fwI_X12_isClimate I0)
    have fM_r1 := a1.2.tr (W := fwM_X12_isClimate) (by decide) (Eqo.refl fwM_X12_isClimate M0)
    rcases fr_i h with h | h
    · have h := Option.some.inj h
      subst h
      exact ⟨fI_r1, fM_r1⟩
    · cases h
  · rcases fr_i h with h | h
    · obtain ⟨r2, e_r2, h⟩ := wb_b h
      have a2 := fr_fX12_right e_r2
      have fI_r2 := a2.1.tr (W := fwI_X12_isClimate) (by decide) (Eqo.refl fwI_X12_isClimate I0)
      have fM_r2 := a2.2.tr (W := fwM_X12_isClimate) (by decide) (Eqo.refl fwM_X12_isClimate M0)
      rcases fr_i h with h | h
      · have h := Option.some.inj h
        subst h
        exact ⟨fI_r2, fM_r2⟩
      · cases h
    · obtain ⟨r3, -, h⟩ := wb_b h
      rcases fr_i h with h | h
      · obtain ⟨r4, e_r4, h⟩ := wb_b h
        have a3 := fr_fX12_right e_r4
        have fI_r4 := a3.1.tr (W := fwI_X12_isClimate) (by decide) (Eqo.refl fwI_X12_isClimate I0)
        have fM_r4 := a3.2.tr (W := fwM_X12_isClimate) (by decide) (Eqo.refl fwM_X12_isClimate M0)
        rcases fr_i h with h | h
        · have h := Option.some.inj h
          subst h
          exact ⟨fI_r4, fM_r4⟩
        · cases h
      · obtain ⟨r5, e_r5, h⟩ := wb_b h
        have a4 := fr_fX12_right e_r5
        have fI_r5 := a4.1.tr (W := fwI_X12_isClimate) (by decide) (Eqo.refl fwI_X12_isClimate I0)
        have fM_r5 := a4.2.tr (W := fwM_X12_isClimate) (by decide) (Eqo.refl fwM_X12_isClimate M0)
        rcases fr_i h with h | h
        · have h := Option.some.inj h
          subst h
          exact ⟨fI_r5, fM_r5⟩
        · cases h
abbrev fwI_X12_climb : List Nat := [0]
abbrev fwM_X12_climb : List Nat := []
theorem fr_fX12_climb {N : Nat} {I0 : Nat → Int32} {L0 : Int64} {M0 : Nat → Nat → Int32} {x1 : Int32} {x2 : Int32} {R} (h : fX12_climb N I0 L0 M0 x1 x2 = some R) : Eqo fwI_X12_climb R.2.1 I0 ∧ Eqo fwM_X12_climb R.2.2.2 M0 := by
  unfold fX12_climb at h
  obtain ⟨I0_1, e_I0_1, h⟩ := wb_v h
  have f_I0_1 := Eqo.eq e_I0_1 (Eqo.u (by decide) (Eqo.refl fwI_X12_climb I0))
  obtain ⟨r2, e_r2, h⟩ := wb_b h
  have a1 := fr_fX12_isClimate e_r2
  have fI_r2 := a1.1.tr (W := fwI_X12_climb) (by decide) f_I0_1
  have fM_r2 := a1.2.tr (W := fwM_X12_climb) (by decide) (Eqo.refl fwM_X12_climb M0)
  rcases fr_i h with h | h
  · have h := Option.some.inj h
    subst h
    exact ⟨fI_r2, fM_r2⟩
  · obtain ⟨r3, -, h⟩ := wb_b h
    have h := Option.some.inj h
    subst h
    exact ⟨fI_r2, fM_r2⟩
abbrev fwI_X12_rise : List Nat := [0]
abbrev fwM_X12_rise : List Nat := []
theorem fr_fX12_rise {N : Nat} {I0 : Nat → Int32} {L0 : Int64} {M0 : Nat → Nat → Int32} {x1 : Int32} {x2 : Int32} {x3 : Int32} {R} (h : fX12_rise N I0 L0 M0 x1 x2 x3 = some R) : Eqo fwI_X12_rise R.2.1 I0 ∧ Eqo fwM_X12_rise R.2.2.2 M0 := by
  unfold fX12_rise at h
  obtain ⟨I0_1, e_I0_1, h⟩ := wb_v h
  have f_I0_1 := Eqo.eq e_I0_1 (Eqo.u (by decide) (Eqo.refl fwI_X12_rise I0))
  obtain ⟨r2, e_r2, h⟩ := wb_b h
  have a1 := fr_fX12_isClimate e_r2
  have fI_r2 := a1.1.tr (W := fwI_X12_rise) (by decide) f_I0_1
  have fM_r2 := a1.2.tr (W := fwM_X12_rise) (by decide) (Eqo.refl fwM_X12_rise M0)
  rcases fr_i h with h | h
  · have h := Option.some.inj h
    subst h
    exact ⟨fI_r2, fM_r2⟩
  · obtain ⟨r3, -, h⟩ := wb_b h
    obtain ⟨r4, e_r4, h⟩ := wb_b h
    have a2 := fr_fX12_right e_r4
    have fI_r4 := a2.1.tr (W := fwI_X12_rise) (by decide) fI_r2
    have fM_r4 := a2.2.tr (W := fwM_X12_rise) (by decide) fM_r2
    rcases fr_i h with h | h
    · have h := Option.some.inj h
      subst h
      exact ⟨fI_r4, fM_r4⟩
    · obtain ⟨r5, -, h⟩ := wb_b h
      have h := Option.some.inj h
      subst h
      exact ⟨fI_r4, fM_r4⟩
abbrev fwI_X12_middle : List Nat := [0]
abbrev fwM_X12_middle : List Nat := []
theorem fr_fX12_middle {N : Nat} {I0 : Nat → Int32} {L0 : Int64} {M0 : Nat → Nat → Int32} {x1 : Int32} {x2 : Int32} {R} (h : fX12_middle N I0 L0 M0 x1 x2 = some R) : Eqo fwI_X12_middle R.2.1 I0 ∧ Eqo fwM_X12_middle R.2.2.2 M0 := by
  unfold fX12_middle at h
  obtain ⟨I0_1, e_I0_1, h⟩ := wb_v h
  have f_I0_1 := Eqo.eq e_I0_1 (Eqo.u (by decide) (Eqo.refl fwI_X12_middle I0))
  obtain ⟨r2, e_r2, h⟩ := wb_b h
  have a1 := fr_fX12_isClimate e_r2
  have fI_r2 := a1.1.tr (W := fwI_X12_middle) (by decide) f_I0_1
  have fM_r2 := a1.2.tr (W := fwM_X12_middle) (by decide) (Eqo.refl fwM_X12_middle M0)
  rcases fr_i h with h | h
  · have h := Option.some.inj h
    subst h
    exact ⟨fI_r2, fM_r2⟩
  · obtain ⟨r3, -, h⟩ := wb_b h
    have h := Option.some.inj h
    subst h
    exact ⟨fI_r2, fM_r2⟩
abbrev fwI_X12_hour : List Nat := [0]
abbrev fwM_X12_hour : List Nat := []
theorem fr_fX12_hour_J127 {N : Nat} {x1 : Int32} {x2 : Int32} {x3 : Int32} {I0_j127 : Nat → Int32} {L0_j127 : Int64} {M0_j127 : Nat → Nat → Int32} {y127_6 : Int32} {R} (h : fX12_hour_J127 N x1 x2 x3 I0_j127 L0_j127 M0_j127 y127_6 = some R) : Eqo fwI_X12_hour R.2.1 I0_j127 ∧ Eqo fwM_X12_hour R.2.2.2 M0_j127 := by
  unfold fX12_hour_J127 at h
  rcases fr_i h with h | h
  · obtain ⟨r2, e_r2, h⟩ := wb_b h
    have a1 := fr_fX12_right e_r2
    have fI_r2 := a1.1.tr (W := fwI_X12_hour) (by decide) (Eqo.refl fwI_X12_hour I0_j127)
    have fM_r2 := a1.2.tr (W := fwM_X12_hour) (by decide) (Eqo.refl fwM_X12_hour M0_j127)
    rcases fr_i h with h | h
    · have h := Option.some.inj h
      subst h
      exact ⟨fI_r2, fM_r2⟩
    · have h := Option.some.inj h
      subst h
      exact ⟨fI_r2, fM_r2⟩
  · obtain ⟨r1, e_r1, h⟩ := wb_b h
    have a2 := fr_fX12_right e_r1
    have fI_r1 := a2.1.tr (W := fwI_X12_hour) (by decide) (Eqo.refl fwI_X12_hour I0_j127)
    have fM_r1 := a2.2.tr (W := fwM_X12_hour) (by decide) (Eqo.refl fwM_X12_hour M0_j127)
    rcases fr_i h with h | h
    · have h := Option.some.inj h
      subst h
      exact ⟨fI_r1, fM_r1⟩
    · have h := Option.some.inj h
      subst h
      exact ⟨fI_r1, fM_r1⟩
theorem fr_fX12_hour_L67 {N : Nat} {x1 : Int32} {x2 : Int32} {x3 : Int32} {y61_4 : Int32} {y61_5 : Int32} : ∀ fu I0_l67 L0_l67 M0_l67 y67_6 y67_7 R, fX12_hour_L67 N x1 x2 x3 y61_4 y61_5 fu I0_l67 L0_l67 M0_l67 y67_6 y67_7 = some R → Eqo fwI_X12_hour R.2.1 I0_l67 ∧ Eqo fwM_X12_hour R.2.2.2 M0_l67 := by
  intro fu
  induction fu with
  | zero => intro I0_l67 L0_l67 M0_l67 y67_6 y67_7 R h; cases (show none = some R from h)
  | succ fu ih =>
    intro I0_l67 L0_l67 M0_l67 y67_6 y67_7 R h
    rw [fX12_hour_L67.eq_2] at h
    rcases fr_i h with h | h
    · have a1 := fr_fX12_hour_J127 h
      exact ⟨a1.1.tr (by decide) (Eqo.refl fwI_X12_hour I0_l67), a1.2.tr (by decide) (Eqo.refl fwM_X12_hour M0_l67)⟩
    · rcases fr_i h with h | h
      · have a2 := fr_fX12_hour_J127 h
        exact ⟨a2.1.tr (by decide) (Eqo.refl fwI_X12_hour I0_l67), a2.2.tr (by decide) (Eqo.refl fwM_X12_hour M0_l67)⟩
      · obtain ⟨r3, -, h⟩ := wb_b h
        rcases fr_i h with h | h
        · obtain ⟨v6, -, h⟩ := wb_v h
          have a3 := ih _ _ _ _ _ _ h
          exact ⟨a3.1.tr (by decide) (Eqo.refl fwI_X12_hour I0_l67), a3.2.tr (by decide) (Eqo.refl fwM_X12_hour M0_l67)⟩
        · rcases fr_i h with h | h
          · have h := Option.some.inj h
            subst h
            exact ⟨(Eqo.refl fwI_X12_hour I0_l67), (Eqo.refl fwM_X12_hour M0_l67)⟩
          · obtain ⟨v4, -, h⟩ := wb_v h
            obtain ⟨v5, -, h⟩ := wb_v h
            have a4 := ih _ _ _ _ _ _ h
            exact ⟨a4.1.tr (by decide) (Eqo.refl fwI_X12_hour I0_l67), a4.2.tr (by decide) (Eqo.refl fwM_X12_hour M0_l67)⟩
theorem fr_fX12_hour_J61 {N : Nat} {x1 : Int32} {x2 : Int32} {x3 : Int32} {I0_j61 : Nat → Int32} {L0_j61 : Int64} {M0_j61 : Nat → Nat → Int32} {y61_4 : Int32} {y61_5 : Int32} {R} (h : fX12_hour_J61 N x1 x2 x3 I0_j61 L0_j61 M0_j61 y61_4 y61_5 = some R) : Eqo fwI_X12_hour R.2.1 I0_j61 ∧ Eqo fwM_X12_hour R.2.2.2 M0_j61 := by
  unfold fX12_hour_J61 at h
  have a1 := fr_fX12_hour_L67 _ _ _ _ _ _ _ h
  exact ⟨a1.1.tr (by decide) (Eqo.refl fwI_X12_hour I0_j61), a1.2.tr (by decide) (Eqo.refl fwM_X12_hour M0_j61)⟩
theorem fr_fX12_hour_J47 {N : Nat} {x1 : Int32} {x2 : Int32} {x3 : Int32} {I0_j47 : Nat → Int32} {L0_j47 : Int64} {M0_j47 : Nat → Nat → Int32} {y47_4 : Int32} {z47_0 : Int32} {R} (h : fX12_hour_J47 N x1 x2 x3 I0_j47 L0_j47 M0_j47 y47_4 z47_0 = some R) : Eqo fwI_X12_hour R.2.1 I0_j47 ∧ Eqo fwM_X12_hour R.2.2.2 M0_j47 := by
  unfold fX12_hour_J47 at h
  rcases fr_i h with h | h
  · rcases fr_i h with h | h
    · have h := Option.some.inj h
      subst h
      exact ⟨(Eqo.refl fwI_X12_hour I0_j47), (Eqo.refl fwM_X12_hour M0_j47)⟩
    · have a1 := fr_fX12_hour_J61 h
      exact ⟨a1.1.tr (by decide) (Eqo.refl fwI_X12_hour I0_j47), a1.2.tr (by decide) (Eqo.refl fwM_X12_hour M0_j47)⟩
  · have a2 := fr_fX12_hour_J61 h
    exact ⟨a2.1.tr (by decide) (Eqo.refl fwI_X12_hour I0_j47), a2.2.tr (by decide) (Eqo.refl fwM_X12_hour M0_j47)⟩
theorem fr_fX12_hour_J46 {N : Nat} {x1 : Int32} {x2 : Int32} {x3 : Int32} {I0_j46 : Nat → Int32} {L0_j46 : Int64} {M0_j46 : Nat → Nat → Int32} {y46_4 : Int32} {R} (h : fX12_hour_J46 N x1 x2 x3 I0_j46 L0_j46 M0_j46 y46_4 = some R) : Eqo fwI_X12_hour R.2.1 I0_j46 ∧ Eqo fwM_X12_hour R.2.2.2 M0_j46 := by
  unfold fX12_hour_J46 at h
  have a1 := fr_fX12_hour_J47 h
  exact ⟨a1.1.tr (by decide) (Eqo.refl fwI_X12_hour I0_j46), a1.2.tr (by decide) (Eqo.refl fwM_X12_hour M0_j46)⟩
theorem fr_fX12_hour {N : Nat} {I0 : Nat → Int32} {L0 : Int64} {M0 : Nat → Nat → Int32} {x1 : Int32} {x2 : Int32} {x3 : Int32} {R} (h : fX12_hour N I0 L0 M0 x1 x2 x3 = some R) : Eqo fwI_X12_hour R.2.1 I0 ∧ Eqo fwM_X12_hour R.2.2.2 M0 := by
  unfold fX12_hour at h
  obtain ⟨r7, e_r7, h⟩ := wb_b h
  have a1 := fr_fX12_isWheel e_r7
  have fI_r7 := a1.1.tr (W := fwI_X12_hour) (by decide) (Eqo.refl fwI_X12_hour I0)
  have fM_r7 := a1.2.tr (W := fwM_X12_hour) (by decide) (Eqo.refl fwM_X12_hour M0)
  rcases fr_i h with h | h
  · have h := Option.some.inj h
    subst h
    exact ⟨fI_r7, fM_r7⟩
  · obtain ⟨v8, -, h⟩ := wb_v h
    obtain ⟨r9b, -, h⟩ := wb_b h
    rcases fr_i h with h | h
    · have a2 := fr_fX12_hour_J46 h
      exact ⟨a2.1.tr (by decide) fI_r7, a2.2.tr (by decide) fM_r7⟩
    · obtain ⟨r10, -, h⟩ := wb_b h
      rcases fr_i h with h | h
      · have a3 := fr_fX12_hour_J46 h
        exact ⟨a3.1.tr (by decide) fI_r7, a3.2.tr (by decide) fM_r7⟩
      · have a4 := fr_fX12_hour_J47 h
        exact ⟨a4.1.tr (by decide) fI_r7, a4.2.tr (by decide) fM_r7⟩
abbrev fwI_X12_isWay : List Nat := [0]
abbrev fwM_X12_isWay : List Nat := []
theorem fr_fX12_isWay {N : Nat} {I0 : Nat → Int32} {L0 : Int64} {M0 : Nat → Nat → Int32} {x1 : Int32} {x2 : Int32} {R} (h : fX12_isWay N I0 L0 M0 x1 x2 = some R) : Eqo fwI_X12_isWay R.2.1 I0 ∧ Eqo fwM_X12_isWay R.2.2.2 M0 := by
  unfold fX12_isWay at h
  obtain ⟨r1, -, h⟩ := wb_b h
  rcases fr_i h with h | h
  · obtain ⟨r2, e_r2, h⟩ := wb_b h
    have a1 := fr_fX12_right e_r2
    have fI_r2 := a1.1.tr (W := fwI_X12_isWay) (by decide) (Eqo.refl fwI_X12_isWay I0)
    have fM_r2 := a1.2.tr (W := fwM_X12_isWay) (by decide) (Eqo.refl fwM_X12_isWay M0)
    rcases fr_i h with h | h
    · have h := Option.some.inj h
      subst h
      exact ⟨fI_r2, fM_r2⟩
    · cases h
  · rcases fr_i h with h | h
    · obtain ⟨r3, e_r3, h⟩ := wb_b h
      have a2 := fr_fX12_right e_r3
      have fI_r3 := a2.1.tr (W := fwI_X12_isWay) (by decide) (Eqo.refl fwI_X12_isWay I0)
      have fM_r3 := a2.2.tr (W := fwM_X12_isWay) (by decide) (Eqo.refl fwM_X12_isWay M0)
      rcases fr_i h with h | h
      · have h := Option.some.inj h
        subst h
        exact ⟨fI_r3, fM_r3⟩
      · cases h
    · rcases fr_i h with h | h
      · obtain ⟨r4, e_r4, h⟩ := wb_b h
        have a3 := fr_fX12_right e_r4
        have fI_r4 := a3.1.tr (W := fwI_X12_isWay) (by decide) (Eqo.refl fwI_X12_isWay I0)
        have fM_r4 := a3.2.tr (W := fwM_X12_isWay) (by decide) (Eqo.refl fwM_X12_isWay M0)
        rcases fr_i h with h | h
        · have h := Option.some.inj h
          subst h
          exact ⟨fI_r4, fM_r4⟩
        · cases h
      · rcases fr_i h with h | h
        · obtain ⟨r5, e_r5, h⟩ := wb_b h
          have a4 := fr_fX12_right e_r5
          have fI_r5 := a4.1.tr (W := fwI_X12_isWay) (by decide) (Eqo.refl fwI_X12_isWay I0)
          have fM_r5 := a4.2.tr (W := fwM_X12_isWay) (by decide) (Eqo.refl fwM_X12_isWay M0)
          rcases fr_i h with h | h
          · have h := Option.some.inj h
            subst h
            exact ⟨fI_r5, fM_r5⟩
          · cases h
        · obtain ⟨r6, e_r6, h⟩ := wb_b h
          have a5 := fr_fX12_right e_r6
          have fI_r6 := a5.1.tr (W := fwI_X12_isWay) (by decide) (Eqo.refl fwI_X12_isWay I0)
          have fM_r6 := a5.2.tr (W := fwM_X12_isWay) (by decide) (Eqo.refl fwM_X12_isWay M0)
          rcases fr_i h with h | h
          · have h := Option.some.inj h
            subst h
            exact ⟨fI_r6, fM_r6⟩
          · cases h
abbrev fwI_X12_houseOf : List Nat := [0]
abbrev fwM_X12_houseOf : List Nat := []
theorem fr_fX12_houseOf_J33 {N : Nat} {x1 : Int32} {x2 : Int32} {x3 : Int32} {x4 : Int32} {I0_j33 : Nat → Int32} {L0_j33 : Int64} {M0_j33 : Nat → Nat → Int32} {z33_0 : Int32} {R} (h : fX12_houseOf_J33 N x1 x2 x3 x4 I0_j33 L0_j33 M0_j33 z33_0 = some R) : Eqo fwI_X12_houseOf R.2.1 I0_j33 ∧ Eqo fwM_X12_houseOf R.2.2.2 M0_j33 := by
  unfold fX12_houseOf_J33 at h
  obtain ⟨r1, e_r1, h⟩ := wb_b h
  have a1 := fr_fX12_right e_r1
  have fI_r1 := a1.1.tr (W := fwI_X12_houseOf) (by decide) (Eqo.refl fwI_X12_houseOf I0_j33)
  have fM_r1 := a1.2.tr (W := fwM_X12_houseOf) (by decide) (Eqo.refl fwM_X12_houseOf M0_j33)
  rcases fr_i h with h | h
  · have h := Option.some.inj h
    subst h
    exact ⟨fI_r1, fM_r1⟩
  · obtain ⟨r2, e_r2, h⟩ := wb_b h
    have a2 := fr_fX12_isWay e_r2
    have fI_r2 := a2.1.tr (W := fwI_X12_houseOf) (by decide) fI_r1
    have fM_r2 := a2.2.tr (W := fwM_X12_houseOf) (by decide) fM_r1
    rcases fr_i h with h | h
    · have h := Option.some.inj h
      subst h
      exact ⟨fI_r2, fM_r2⟩
    · obtain ⟨r3, -, h⟩ := wb_b h
      have h := Option.some.inj h
      subst h
      exact ⟨fI_r2, fM_r2⟩
theorem fr_fX12_houseOf_J32 {N : Nat} {x1 : Int32} {x2 : Int32} {x3 : Int32} {x4 : Int32} {I0_j32 : Nat → Int32} {L0_j32 : Int64} {M0_j32 : Nat → Nat → Int32} {R} (h : fX12_houseOf_J32 N x1 x2 x3 x4 I0_j32 L0_j32 M0_j32 = some R) : Eqo fwI_X12_houseOf R.2.1 I0_j32 ∧ Eqo fwM_X12_houseOf R.2.2.2 M0_j32 := by
  unfold fX12_houseOf_J32 at h
  have a1 := fr_fX12_houseOf_J33 h
  exact ⟨a1.1.tr (by decide) (Eqo.refl fwI_X12_houseOf I0_j32), a1.2.tr (by decide) (Eqo.refl fwM_X12_houseOf M0_j32)⟩
theorem fr_fX12_houseOf {N : Nat} {I0 : Nat → Int32} {L0 : Int64} {M0 : Nat → Nat → Int32} {x1 : Int32} {x2 : Int32} {x3 : Int32} {x4 : Int32} {R} (h : fX12_houseOf N I0 L0 M0 x1 x2 x3 x4 = some R) : Eqo fwI_X12_houseOf R.2.1 I0 ∧ Eqo fwM_X12_houseOf R.2.2.2 M0 := by
  unfold fX12_houseOf at h
  obtain ⟨I0_4, e_I0_4, h⟩ := wb_v h
  have f_I0_4 := Eqo.eq e_I0_4 (Eqo.u (by decide) (Eqo.refl fwI_X12_houseOf I0))
  obtain ⟨r5, -, h⟩ := wb_b h
  rcases fr_i h with h | h
  · have a1 := fr_fX12_houseOf_J32 h
    exact ⟨a1.1.tr (by decide) f_I0_4, a1.2.tr (by decide) (Eqo.refl fwM_X12_houseOf M0)⟩
  · obtain ⟨r6, -, h⟩ := wb_b h
    rcases fr_i h with h | h
    · have a2 := fr_fX12_houseOf_J32 h
      exact ⟨a2.1.tr (by decide) f_I0_4, a2.2.tr (by decide) (Eqo.refl fwM_X12_houseOf M0)⟩
    · have a3 := fr_fX12_houseOf_J33 h
      exact ⟨a3.1.tr (by decide) f_I0_4, a3.2.tr (by decide) (Eqo.refl fwM_X12_houseOf M0)⟩
abbrev fwI_X12_agree : List Nat := [0]
abbrev fwM_X12_agree : List Nat := []
theorem fr_fX12_agree {N : Nat} {I0 : Nat → Int32} {L0 : Int64} {M0 : Nat → Nat → Int32} {x1 : Int32} {x2 : Int32} {x3 : Int32} {x4 : Int32} {R} (h : fX12_agree N I0 L0 M0 x1 x2 x3 x4 = some R) : Eqo fwI_X12_agree R.2.1 I0 ∧ Eqo fwM_X12_agree R.2.2.2 M0 := by
  unfold fX12_agree at h
  obtain ⟨r1, e_r1, h⟩ := wb_b h
  have a1 := fr_fX12_isWheel e_r1
  have fI_r1 := a1.1.tr (W := fwI_X12_agree) (by decide) (Eqo.refl fwI_X12_agree I0)
  have fM_r1 := a1.2.tr (W := fwM_X12_agree) (by decide) (Eqo.refl fwM_X12_agree M0)
  rcases fr_i h with h | h
  · have h := Option.some.inj h
    subst h
    exact ⟨fI_r1, fM_r1⟩
  · obtain ⟨r2, e_r2, h⟩ := wb_b h
    have a2 := fr_fX12_isWay e_r2
    have fI_r2 := a2.1.tr (W := fwI_X12_agree) (by decide) fI_r1
    have fM_r2 := a2.2.tr (W := fwM_X12_agree) (by decide) fM_r1
    rcases fr_i h with h | h
    · have h := Option.some.inj h
      subst h
      exact ⟨fI_r2, fM_r2⟩
    · obtain ⟨r3, -, h⟩ := wb_b h
      rcases fr_i h with h | h
      · have h := Option.some.inj h
        subst h
        exact ⟨fI_r2, fM_r2⟩
      · obtain ⟨r4, -, h⟩ := wb_b h
        have h := Option.some.inj h
        subst h
        exact ⟨fI_r2, fM_r2⟩
abbrev fwI_X12_possible : List Nat := [0]
abbrev fwM_X12_possible : List Nat := []
theorem fr_fX12_possible_J208 {N : Nat} {x1 : Int32} {x2 : Int32} {x3 : Int32} {r1 : Int32} {y71_4 : Int32} {g88 : (Nat → Int32) → Int64 → (Nat → Nat → Int32) → Int32 → Int32 → Option (Int32 × (Nat → Int32) × Int64 × (Nat → Nat → Int32))} {g126 : (Nat → Int32) → Int64 → (Nat → Nat → Int32) → Int32 → Int32 → Int32 → Option (Int32 × (Nat → Int32) × Int64 × (Nat → Nat → Int32))} {I0_j208 : Nat → Int32} {L0_j208 : Int64} {M0_j208 : Nat → Nat → Int32} {y208_6 : Int32} {y208_7 : Int32} {y208_8 : Int32} {y208_9 : Int32} (hg88 : ∀ q0 q1 q2 q3 q4 R, g88 q0 q1 q2 q3 q4 = some R → Eqo fwI_X12_possible R.2.1 q0 ∧ Eqo fwM_X12_possible R.2.2.2 q2) (hg126 : ∀ q0 q1 q2 q3 q4 q5 R, g126 q0 q1 q2 q3 q4 q5 = some R → Eqo fwI_X12_possible R.2.1 q0 ∧ Eqo fwM_X12_possible R.2.2.2 q2) {R} (h : fX12_possible_J208 N x1 x2 x3 r1 y71_4 g88 g126 I0_j208 L0_j208 M0_j208 y208_6 y208_7 y208_8 y208_9 = some R) : Eqo fwI_X12_possible R.2.1 I0_j208 ∧ Eqo fwM_X12_possible R.2.2.2 M0_j208 := by
  unfold fX12_possible_J208 at h
  rcases fr_i h with h | h
  · obtain ⟨v2, -, h⟩ := wb_v h
    have a1 := hg126 _ _ _ _ _ _ _ h
    exact ⟨a1.1.tr (by decide) (Eqo.refl fwI_X12_possible I0_j208), a1.2.tr (by decide) (Eqo.refl fwM_X12_possible M0_j208)⟩
  · obtain ⟨v3, -, h⟩ := wb_v h
    obtain ⟨v4, -, h⟩ := wb_v h
    have a2 := hg126 _ _ _ _ _ _ _ h
    exact ⟨a2.1.tr (by decide) (Eqo.refl fwI_X12_possible I0_j208), a2.2.tr (by decide) (Eqo.refl fwM_X12_possible M0_j208)⟩
theorem fr_fX12_possible_L164 {N : Nat} {x1 : Int32} {x2 : Int32} {x3 : Int32} {r1 : Int32} {v6 : Int32} {y126_7 : Int32} {y126_8 : Int32} {y71_4 : Int32} {g88 : (Nat → Int32) → Int64 → (Nat → Nat → Int32) → Int32 → Int32 → Option (Int32 × (Nat → Int32) × Int64 × (Nat → Nat → Int32))} {g126 : (Nat → Int32) → Int64 → (Nat → Nat → Int32) → Int32 → Int32 → Int32 → Option (Int32 × (Nat → Int32) × Int64 × (Nat → Nat → Int32))} (hg88 : ∀ q0 q1 q2 q3 q4 R, g88 q0 q1 q2 q3 q4 = some R → Eqo fwI_X12_possible R.2.1 q0 ∧ Eqo fwM_X12_possible R.2.2.2 q2) (hg126 : ∀ q0 q1 q2 q3 q4 q5 R, g126 q0 q1 q2 q3 q4 q5 = some R → Eqo fwI_X12_possible R.2.1 q0 ∧ Eqo fwM_X12_possible R.2.2.2 q2) : ∀ fu I0_l164 L0_l164 M0_l164 y164_9 y164_10 R, fX12_possible_L164 N x1 x2 x3 r1 v6 y126_7 y126_8 y71_4 g88 g126 fu I0_l164 L0_l164 M0_l164 y164_9 y164_10 = some R → Eqo fwI_X12_possible R.2.1 I0_l164 ∧ Eqo fwM_X12_possible R.2.2.2 M0_l164 := by
  intro fu
  induction fu with
  | zero => intro I0_l164 L0_l164 M0_l164 y164_9 y164_10 R h; cases (show none = some R from h)
  | succ fu ih =>
    intro I0_l164 L0_l164 M0_l164 y164_9 y164_10 R h
    rw [fX12_possible_L164.eq_2] at h
    rcases fr_i h with h | h
    · have a1 := fr_fX12_possible_J208 hg88 hg126 h
      exact ⟨a1.1.tr (by decide) (Eqo.refl fwI_X12_possible I0_l164), a1.2.tr (by decide) (Eqo.refl fwM_X12_possible M0_l164)⟩
    · rcases fr_i h with h | h
      · rcases fr_i h with h | h
        · obtain ⟨r8, -, h⟩ := wb_b h
          rcases fr_i h with h | h
          · obtain ⟨v9, -, h⟩ := wb_v h
            have a2 := ih _ _ _ _ _ _ h
            exact ⟨a2.1.tr (by decide) (Eqo.refl fwI_X12_possible I0_l164), a2.2.tr (by decide) (Eqo.refl fwM_X12_possible M0_l164)⟩
          · obtain ⟨v10, -, h⟩ := wb_v h
            have a3 := ih _ _ _ _ _ _ h
            exact ⟨a3.1.tr (by decide) (Eqo.refl fwI_X12_possible I0_l164), a3.2.tr (by decide) (Eqo.refl fwM_X12_possible M0_l164)⟩
        · obtain ⟨v7, -, h⟩ := wb_v h
          have a4 := ih _ _ _ _ _ _ h
          exact ⟨a4.1.tr (by decide) (Eqo.refl fwI_X12_possible I0_l164), a4.2.tr (by decide) (Eqo.refl fwM_X12_possible M0_l164)⟩
      · have a5 := fr_fX12_possible_J208 hg88 hg126 h
        exact ⟨a5.1.tr (by decide) (Eqo.refl fwI_X12_possible I0_l164), a5.2.tr (by decide) (Eqo.refl fwM_X12_possible M0_l164)⟩
theorem fr_fX12_possible_L126 {N : Nat} {x1 : Int32} {x2 : Int32} {x3 : Int32} {r1 : Int32} {y71_4 : Int32} {g88 : (Nat → Int32) → Int64 → (Nat → Nat → Int32) → Int32 → Int32 → Option (Int32 × (Nat → Int32) × Int64 × (Nat → Nat → Int32))} (hg88 : ∀ q0 q1 q2 q3 q4 R, g88 q0 q1 q2 q3 q4 = some R → Eqo fwI_X12_possible R.2.1 q0 ∧ Eqo fwM_X12_possible R.2.2.2 q2) : ∀ fu I0_l126 L0_l126 M0_l126 y126_6 y126_7 y126_8 R, fX12_possible_L126 N x1 x2 x3 r1 y71_4 g88 fu I0_l126 L0_l126 M0_l126 y126_6 y126_7 y126_8 = some R → Eqo fwI_X12_possible R.2.1 I0_l126 ∧ Eqo fwM_X12_possible R.2.2.2 M0_l126 := by
  intro fu
  induction fu with
  | zero => intro I0_l126 L0_l126 M0_l126 y126_6 y126_7 y126_8 R h; cases (show none = some R from h)
  | succ fu ih =>
    intro I0_l126 L0_l126 M0_l126 y126_6 y126_7 y126_8 R h
    rw [fX12_possible_L126.eq_2] at h
    rcases fr_i h with h | h
    · rcases fr_i h with h | h
      · have h := Option.some.inj h
        subst h
        exact ⟨(Eqo.refl fwI_X12_possible I0_l126), (Eqo.refl fwM_X12_possible M0_l126)⟩
      · have h := Option.some.inj h
        subst h
        exact ⟨(Eqo.refl fwI_X12_possible I0_l126), (Eqo.refl fwM_X12_possible M0_l126)⟩
    · obtain ⟨r5, -, h⟩ := wb_b h
      rcases fr_i h with h | h
      · obtain ⟨v6, -, h⟩ := wb_v h
        have c103 : ∀ q0 q1 q2 q3 q4 q5 R, (fX12_possible_L126 N x1 x2 x3 r1 y71_4 g88 fu q0 q1 q2 q3 q4 q5) = some R → Eqo fwI_X12_possible R.2.1 q0 ∧ Eqo fwM_X12_possible R.2.2.2 q2 := by
            intro q0 q1 q2 q3 q4 q5 R h
            have a102 := ih _ _ _ _ _ _ _ h
            exact ⟨a102.1.tr (by decide) (Eqo.refl fwI_X12_possible q0), a102.2.tr (by decide) (Eqo.refl fwM_X12_possible q2)⟩
        have a1 := fr_fX12_possible_L164 hg88 c103 _ _ _ _ _ _ _ h
        exact ⟨a1.1.tr (by decide) (Eqo.refl fwI_X12_possible I0_l126), a1.2.tr (by decide) (Eqo.refl fwM_X12_possible M0_l126)⟩
      · obtain ⟨v11, -, h⟩ := wb_v h
        have a104 := ih _ _ _ _ _ _ _ h
        exact ⟨a104.1.tr (by decide) (Eqo.refl fwI_X12_possible I0_l126), a104.2.tr (by decide) (Eqo.refl fwM_X12_possible M0_l126)⟩
theorem fr_fX12_possible_L88 {N : Nat} {x1 : Int32} {x2 : Int32} {x3 : Int32} {r1 : Int32} {y71_4 : Int32} : ∀ fu I0_l88 L0_l88 M0_l88 y88_6 y88_8 R, fX12_possible_L88 N x1 x2 x3 r1 y71_4 fu I0_l88 L0_l88 M0_l88 y88_6 y88_8 = some R → Eqo fwI_X12_possible R.2.1 I0_l88 ∧ Eqo fwM_X12_possible R.2.2.2 M0_l88 := by
  intro fu
  induction fu with
  | zero => intro I0_l88 L0_l88 M0_l88 y88_6 y88_8 R h; cases (show none = some R from h)
  | succ fu ih =>
    intro I0_l88 L0_l88 M0_l88 y88_6 y88_8 R h
    rw [fX12_possible_L88.eq_2] at h
    rcases fr_i h with h | h
    · have c103 : ∀ q0 q1 q2 q3 q4 R, (fX12_possible_L88 N x1 x2 x3 r1 y71_4 fu q0 q1 q2 q3 q4) = some R → Eqo fwI_X12_possible R.2.1 q0 ∧ Eqo fwM_X12_possible R.2.2.2 q2 := by
          intro q0 q1 q2 q3 q4 R h
          have a102 := ih _ _ _ _ _ _ h
          exact ⟨a102.1.tr (by decide) (Eqo.refl fwI_X12_possible q0), a102.2.tr (by decide) (Eqo.refl fwM_X12_possible q2)⟩
      have a1 := fr_fX12_possible_L126 c103 _ _ _ _ _ _ _ _ h
      exact ⟨a1.1.tr (by decide) (Eqo.refl fwI_X12_possible I0_l88), a1.2.tr (by decide) (Eqo.refl fwM_X12_possible M0_l88)⟩
    · obtain ⟨r12, -, h⟩ := wb_b h
      rcases fr_i h with h | h
      · obtain ⟨v14, -, h⟩ := wb_v h
        obtain ⟨v15, -, h⟩ := wb_v h
        have a104 := ih _ _ _ _ _ _ h
        exact ⟨a104.1.tr (by decide) (Eqo.refl fwI_X12_possible I0_l88), a104.2.tr (by decide) (Eqo.refl fwM_X12_possible M0_l88)⟩
      · obtain ⟨v13, -, h⟩ := wb_v h
        have a105 := ih _ _ _ _ _ _ h
        exact ⟨a105.1.tr (by decide) (Eqo.refl fwI_X12_possible I0_l88), a105.2.tr (by decide) (Eqo.refl fwM_X12_possible M0_l88)⟩
theorem fr_fX12_possible_J71 {N : Nat} {x1 : Int32} {x2 : Int32} {x3 : Int32} {I0_j71 : Nat → Int32} {L0_j71 : Int64} {M0_j71 : Nat → Nat → Int32} {y71_4 : Int32} {R} (h : fX12_possible_J71 N x1 x2 x3 I0_j71 L0_j71 M0_j71 y71_4 = some R) : Eqo fwI_X12_possible R.2.1 I0_j71 ∧ Eqo fwM_X12_possible R.2.2.2 M0_j71 := by
  unfold fX12_possible_J71 at h
  obtain ⟨r1, -, h⟩ := wb_b h
  have a1 := fr_fX12_possible_L88 _ _ _ _ _ _ _ h
  exact ⟨a1.1.tr (by decide) (Eqo.refl fwI_X12_possible I0_j71), a1.2.tr (by decide) (Eqo.refl fwM_X12_possible M0_j71)⟩
theorem fr_fX12_possible_J24 {N : Nat} {x1 : Int32} {x2 : Int32} {x3 : Int32} {I0_j24 : Nat → Int32} {L0_j24 : Int64} {M0_j24 : Nat → Nat → Int32} {z24_0 : Int32} {R} (h : fX12_possible_J24 N x1 x2 x3 I0_j24 L0_j24 M0_j24 z24_0 = some R) : Eqo fwI_X12_possible R.2.1 I0_j24 ∧ Eqo fwM_X12_possible R.2.2.2 M0_j24 := by
  unfold fX12_possible_J24 at h
  obtain ⟨r16, e_r16, h⟩ := wb_b h
  have a1 := fr_fX12_right e_r16
  have fI_r16 := a1.1.tr (W := fwI_X12_possible) (by decide) (Eqo.refl fwI_X12_possible I0_j24)
  have fM_r16 := a1.2.tr (W := fwM_X12_possible) (by decide) (Eqo.refl fwM_X12_possible M0_j24)
  rcases fr_i h with h | h
  · have h := Option.some.inj h
    subst h
    exact ⟨fI_r16, fM_r16⟩
  · obtain ⟨v17, -, h⟩ := wb_v h
    obtain ⟨r18, -, h⟩ := wb_b h
    rcases fr_i h with h | h
    · have h := Option.some.inj h
      subst h
      exact ⟨fI_r16, fM_r16⟩
    · rcases fr_i h with h | h
      · obtain ⟨r19, -, h⟩ := wb_b h
        rcases fr_i h with h | h
        · have h := Option.some.inj h
          subst h
          exact ⟨fI_r16, fM_r16⟩
        · have a2 := fr_fX12_possible_J71 h
          exact ⟨a2.1.tr (by decide) fI_r16, a2.2.tr (by decide) fM_r16⟩
      · have a3 := fr_fX12_possible_J71 h
        exact ⟨a3.1.tr (by decide) fI_r16, a3.2.tr (by decide) fM_r16⟩
theorem fr_fX12_possible_J19 {N : Nat} {x1 : Int32} {x2 : Int32} {x3 : Int32} {I0_j19 : Nat → Int32} {L0_j19 : Int64} {M0_j19 : Nat → Nat → Int32} {R} (h : fX12_possible_J19 N x1 x2 x3 I0_j19 L0_j19 M0_j19 = some R) : Eqo fwI_X12_possible R.2.1 I0_j19 ∧ Eqo fwM_X12_possible R.2.2.2 M0_j19 := by
  unfold fX12_possible_J19 at h
  have a1 := fr_fX12_possible_J24 h
  exact ⟨a1.1.tr (by decide) (Eqo.refl fwI_X12_possible I0_j19), a1.2.tr (by decide) (Eqo.refl fwM_X12_possible M0_j19)⟩
theorem fr_fX12_possible {N : Nat} {I0 : Nat → Int32} {L0 : Int64} {M0 : Nat → Nat → Int32} {x1 : Int32} {x2 : Int32} {x3 : Int32} {R} (h : fX12_possible N I0 L0 M0 x1 x2 x3 = some R) : Eqo fwI_X12_possible R.2.1 I0 ∧ Eqo fwM_X12_possible R.2.2.2 M0 := by
  unfold fX12_possible at h
  obtain ⟨r20, e_r20, h⟩ := wb_b h
  have a1 := fr_fX12_isWheel e_r20
  have fI_r20 := a1.1.tr (W := fwI_X12_possible) (by decide) (Eqo.refl fwI_X12_possible I0)
  have fM_r20 := a1.2.tr (W := fwM_X12_possible) (by decide) (Eqo.refl fwM_X12_possible M0)
  rcases fr_i h with h | h
  · have h := Option.some.inj h
    subst h
    exact ⟨fI_r20, fM_r20⟩
  · rcases fr_i h with h | h
    · have a2 := fr_fX12_possible_J19 h
      exact ⟨a2.1.tr (by decide) fI_r20, a2.2.tr (by decide) fM_r20⟩
    · rcases fr_i h with h | h
      · have a3 := fr_fX12_possible_J19 h
        exact ⟨a3.1.tr (by decide) fI_r20, a3.2.tr (by decide) fM_r20⟩
      · have a4 := fr_fX12_possible_J24 h
        exact ⟨a4.1.tr (by decide) fI_r20, a4.2.tr (by decide) fM_r20⟩
abbrev fwI_X12_lot : List Nat := [0]
abbrev fwM_X12_lot : List Nat := []
theorem fr_fX12_lot_J165 {N : Nat} {x1 : Int32} {x2 : Int32} {x3 : Int32} {I0_j165 : Nat → Int32} {L0_j165 : Int64} {M0_j165 : Nat → Nat → Int32} {y165_4 : Int32} {z165_0 : Int32} {R} (h : fX12_lot_J165 N x1 x2 x3 I0_j165 L0_j165 M0_j165 y165_4 z165_0 = some R) : Eqo fwI_X12_lot R.2.1 I0_j165 ∧ Eqo fwM_X12_lot R.2.2.2 M0_j165 := by
  unfold fX12_lot_J165 at h
  rcases fr_i h with h | h
  · have h := Option.some.inj h
    subst h
    exact ⟨(Eqo.refl fwI_X12_lot I0_j165), (Eqo.refl fwM_X12_lot M0_j165)⟩
  · obtain ⟨r1, -, h⟩ := wb_b h
    obtain ⟨r2, -, h⟩ := wb_b h
    have h := Option.some.inj h
    subst h
    exact ⟨(Eqo.refl fwI_X12_lot I0_j165), (Eqo.refl fwM_X12_lot M0_j165)⟩
theorem fr_fX12_lot_J106 {N : Nat} {x1 : Int32} {x2 : Int32} {x3 : Int32} {I0_j106 : Nat → Int32} {L0_j106 : Int64} {M0_j106 : Nat → Nat → Int32} {y106_4 : Int32} {y106_5 : Int32} {y106_6 : Int32} {y106_7 : Int32} {R} (h : fX12_lot_J106 N x1 x2 x3 I0_j106 L0_j106 M0_j106 y106_4 y106_5 y106_6 y106_7 = some R) : Eqo fwI_X12_lot R.2.1 I0_j106 ∧ Eqo fwM_X12_lot R.2.2.2 M0_j106 := by
  unfold fX12_lot_J106 at h
  obtain ⟨v3, -, h⟩ := wb_v h
  rcases fr_i h with h | h
  · have a1 := fr_fX12_lot_J165 h
    exact ⟨a1.1.tr (by decide) (Eqo.refl fwI_X12_lot I0_j106), a1.2.tr (by decide) (Eqo.refl fwM_X12_lot M0_j106)⟩
  · have a2 := fr_fX12_lot_J165 h
    exact ⟨a2.1.tr (by decide) (Eqo.refl fwI_X12_lot I0_j106), a2.2.tr (by decide) (Eqo.refl fwM_X12_lot M0_j106)⟩
theorem fr_fX12_lot_J24 {N : Nat} {x1 : Int32} {x2 : Int32} {x3 : Int32} {I0_j24 : Nat → Int32} {L0_j24 : Int64} {M0_j24 : Nat → Nat → Int32} {z24_0 : Int32} {R} (h : fX12_lot_J24 N x1 x2 x3 I0_j24 L0_j24 M0_j24 z24_0 = some R) : Eqo fwI_X12_lot R.2.1 I0_j24 ∧ Eqo fwM_X12_lot R.2.2.2 M0_j24 := by
  unfold fX12_lot_J24 at h
  obtain ⟨r4, e_r4, h⟩ := wb_b h
  have a1 := fr_fX12_right e_r4
  have fI_r4 := a1.1.tr (W := fwI_X12_lot) (by decide) (Eqo.refl fwI_X12_lot I0_j24)
  have fM_r4 := a1.2.tr (W := fwM_X12_lot) (by decide) (Eqo.refl fwM_X12_lot M0_j24)
  rcases fr_i h with h | h
  · have h := Option.some.inj h
    subst h
    exact ⟨fI_r4, fM_r4⟩
  · obtain ⟨v5, -, h⟩ := wb_v h
    obtain ⟨r6, -, h⟩ := wb_b h
    obtain ⟨r7, -, h⟩ := wb_b h
    obtain ⟨r8, -, h⟩ := wb_b h
    rcases fr_i h with h | h
    · have h := Option.some.inj h
      subst h
      exact ⟨fI_r4, fM_r4⟩
    · rcases fr_i h with h | h
      · have h := Option.some.inj h
        subst h
        exact ⟨fI_r4, fM_r4⟩
      · rcases fr_i h with h | h
        · have h := Option.some.inj h
          subst h
          exact ⟨fI_r4, fM_r4⟩
        · rcases fr_i h with h | h
          · obtain ⟨r9b, -, h⟩ := wb_b h
            rcases fr_i h with h | h
            · have h := Option.some.inj h
              subst h
              exact ⟨fI_r4, fM_r4⟩
            · have a2 := fr_fX12_lot_J106 h
              exact ⟨a2.1.tr (by decide) fI_r4, a2.2.tr (by decide) fM_r4⟩
          · have a3 := fr_fX12_lot_J106 h
            exact ⟨a3.1.tr (by decide) fI_r4, a3.2.tr (by decide) fM_r4⟩
theorem fr_fX12_lot_J19 {N : Nat} {x1 : Int32} {x2 : Int32} {x3 : Int32} {I0_j19 : Nat → Int32} {L0_j19 : Int64} {M0_j19 : Nat → Nat → Int32} {R} (h : fX12_lot_J19 N x1 x2 x3 I0_j19 L0_j19 M0_j19 = some R) : Eqo fwI_X12_lot R.2.1 I0_j19 ∧ Eqo fwM_X12_lot R.2.2.2 M0_j19 := by
  unfold fX12_lot_J19 at h
  have a1 := fr_fX12_lot_J24 h
  exact ⟨a1.1.tr (by decide) (Eqo.refl fwI_X12_lot I0_j19), a1.2.tr (by decide) (Eqo.refl fwM_X12_lot M0_j19)⟩
theorem fr_fX12_lot {N : Nat} {I0 : Nat → Int32} {L0 : Int64} {M0 : Nat → Nat → Int32} {x1 : Int32} {x2 : Int32} {x3 : Int32} {R} (h : fX12_lot N I0 L0 M0 x1 x2 x3 = some R) : Eqo fwI_X12_lot R.2.1 I0 ∧ Eqo fwM_X12_lot R.2.2.2 M0 := by
  unfold fX12_lot at h
  obtain ⟨r10, e_r10, h⟩ := wb_b h
  have a1 := fr_fX12_isWheel e_r10
  have fI_r10 := a1.1.tr (W := fwI_X12_lot) (by decide) (Eqo.refl fwI_X12_lot I0)
  have fM_r10 := a1.2.tr (W := fwM_X12_lot) (by decide) (Eqo.refl fwM_X12_lot M0)
  rcases fr_i h with h | h
  · have h := Option.some.inj h
    subst h
    exact ⟨fI_r10, fM_r10⟩
  · rcases fr_i h with h | h
    · have a2 := fr_fX12_lot_J19 h
      exact ⟨a2.1.tr (by decide) fI_r10, a2.2.tr (by decide) fM_r10⟩
    · rcases fr_i h with h | h
      · have a3 := fr_fX12_lot_J19 h
        exact ⟨a3.1.tr (by decide) fI_r10, a3.2.tr (by decide) fM_r10⟩
      · have a4 := fr_fX12_lot_J24 h
        exact ⟨a4.1.tr (by decide) fI_r10, a4.2.tr (by decide) fM_r10⟩
abbrev fwI_X12_price : List Nat := [0]
abbrev fwM_X12_price : List Nat := []
theorem fr_fX12_price {N : Nat} {I0 : Nat → Int32} {L0 : Int64} {M0 : Nat → Nat → Int32} {x1 : Int32} {x2 : Int32} {R} (h : fX12_price N I0 L0 M0 x1 x2 = some R) : Eqo fwI_X12_price R.2.1 I0 ∧ Eqo fwM_X12_price R.2.2.2 M0 := by
  unfold fX12_price at h
  obtain ⟨I0_1, e_I0_1, h⟩ := wb_v h
  have f_I0_1 := Eqo.eq e_I0_1 (Eqo.u (by decide) (Eqo.refl fwI_X12_price I0))
  obtain ⟨r2, e_r2, h⟩ := wb_b h
  have a1 := fr_fX12_isBook e_r2
  have fI_r2 := a1.1.tr (W := fwI_X12_price) (by decide) f_I0_1
  have fM_r2 := a1.2.tr (W := fwM_X12_price) (by decide) (Eqo.refl fwM_X12_price M0)
  rcases fr_i h with h | h
  · have h := Option.some.inj h
    subst h
    exact ⟨fI_r2, fM_r2⟩
  · obtain ⟨r3, e_r3, h⟩ := wb_b h
    have a2 := fr_fX12_isBook e_r3
    have fI_r3 := a2.1.tr (W := fwI_X12_price) (by decide) fI_r2
    have fM_r3 := a2.2.tr (W := fwM_X12_price) (by decide) fM_r2
    rcases fr_i h with h | h
    · have h := Option.some.inj h
      subst h
      exact ⟨fI_r3, fM_r3⟩
    · obtain ⟨r4, -, h⟩ := wb_b h
      have h := Option.some.inj h
      subst h
      exact ⟨fI_r3, fM_r3⟩
abbrev fwI_X12_tree : List Nat := [0, 18]
abbrev fwM_X12_tree : List Nat := [23, 24, 25, 26]
theorem fr_fX12_tree_L274 {N : Nat} {y258_4 : Int32} {y258_7 : Int32} {y94_3 : Int32} {g9 : (Nat → Int32) → Int64 → (Nat → Nat → Int32) → Int32 → Int32 → Option (Int32 × (Nat → Int32) × Int64 × (Nat → Nat → Int32))} {g57 : (Nat → Int32) → Int64 → (Nat → Nat → Int32) → Int32 → Option (Int32 × (Nat → Int32) × Int64 × (Nat → Nat → Int32))} {g94 : (Nat → Int32) → Int64 → (Nat → Nat → Int32) → Int32 → Int32 → Option (Int32 × (Nat → Int32) × Int64 × (Nat → Nat → Int32))} {g115 : (Nat → Int32) → Int64 → (Nat → Nat → Int32) → Int32 → Int32 → Option (Int32 × (Nat → Int32) × Int64 × (Nat → Nat → Int32))} (hg9 : ∀ q0 q1 q2 q3 q4 R, g9 q0 q1 q2 q3 q4 = some R → Eqo fwI_X12_tree R.2.1 q0 ∧ Eqo fwM_X12_tree R.2.2.2 q2) (hg57 : ∀ q0 q1 q2 q3 R, g57 q0 q1 q2 q3 = some R → Eqo fwI_X12_tree R.2.1 q0 ∧ Eqo fwM_X12_tree R.2.2.2 q2) (hg94 : ∀ q0 q1 q2 q3 q4 R, g94 q0 q1 q2 q3 q4 = some R → Eqo fwI_X12_tree R.2.1 q0 ∧ Eqo fwM_X12_tree R.2.2.2 q2) (hg115 : ∀ q0 q1 q2 q3 q4 R, g115 q0 q1 q2 q3 q4 = some R → Eqo fwI_X12_tree R.2.1 q0 ∧ Eqo fwM_X12_tree R.2.2.2 q2) : ∀ fu I0_l274 L0_l274 M0_l274 y274_8 R, fX12_tree_L274 N y258_4 y258_7 y94_3 g9 g57 g94 g115 fu I0_l274 L0_l274 M0_l274 y274_8 = some R → Eqo fwI_X12_tree R.2.1 I0_l274 ∧ Eqo fwM_X12_tree R.2.2.2 M0_l274 := by
  intro fu
  induction fu with
  | zero => intro I0_l274 L0_l274 M0_l274 y274_8 R h; cases (show none = some R from h)
  | succ fu ih =>
    intro I0_l274 L0_l274 M0_l274 y274_8 R h
    rw [fX12_tree_L274.eq_2] at h
    rcases fr_i h with h | h
    · obtain ⟨v3, -, h⟩ := wb_v h
      have a1 := hg115 _ _ _ _ _ _ h
      exact ⟨a1.1.tr (by decide) (Eqo.refl fwI_X12_tree I0_l274), a1.2.tr (by decide) (Eqo.refl fwM_X12_tree M0_l274)⟩
    · obtain ⟨-, h⟩ := wb_n h
      rcases fr_i h with h | h
      · obtain ⟨-, h⟩ := wb_n h
        obtain ⟨M0_4, e_M0_4, h⟩ := wb_v h
        have f_M0_4 := Eqo.eq e_M0_4 (Eqo.m (by decide) (Eqo.refl fwM_X12_tree M0_l274))
        obtain ⟨v5, -, h⟩ := wb_v h
        have a2 := ih _ _ _ _ _ h
        exact ⟨a2.1.tr (by decide) (Eqo.refl fwI_X12_tree I0_l274), a2.2.tr (by decide) f_M0_4⟩
      · obtain ⟨-, h⟩ := wb_n h
        obtain ⟨-, h⟩ := wb_n h
        obtain ⟨M0_6, e_M0_6, h⟩ := wb_v h
        have f_M0_6 := Eqo.eq e_M0_6 (Eqo.m (by decide) (Eqo.refl fwM_X12_tree M0_l274))
        obtain ⟨v7, -, h⟩ := wb_v h
        have a3 := ih _ _ _ _ _ h
        exact ⟨a3.1.tr (by decide) (Eqo.refl fwI_X12_tree I0_l274), a3.2.tr (by decide) f_M0_6⟩
theorem fr_fX12_tree_J258 {N : Nat} {y94_3 : Int32} {g9 : (Nat → Int32) → Int64 → (Nat → Nat → Int32) → Int32 → Int32 → Option (Int32 × (Nat → Int32) × Int64 × (Nat → Nat → Int32))} {g57 : (Nat → Int32) → Int64 → (Nat → Nat → Int32) → Int32 → Option (Int32 × (Nat → Int32) × Int64 × (Nat → Nat → Int32))} {g94 : (Nat → Int32) → Int64 → (Nat → Nat → Int32) → Int32 → Int32 → Option (Int32 × (Nat → Int32) × Int64 × (Nat → Nat → Int32))} {g115 : (Nat → Int32) → Int64 → (Nat → Nat → Int32) → Int32 → Int32 → Option (Int32 × (Nat → Int32) × Int64 × (Nat → Nat → Int32))} {I0_j258 : Nat → Int32} {L0_j258 : Int64} {M0_j258 : Nat → Nat → Int32} {y258_2 : Int32} {y258_4 : Int32} {y258_7 : Int32} (hg9 : ∀ q0 q1 q2 q3 q4 R, g9 q0 q1 q2 q3 q4 = some R → Eqo fwI_X12_tree R.2.1 q0 ∧ Eqo fwM_X12_tree R.2.2.2 q2) (hg57 : ∀ q0 q1 q2 q3 R, g57 q0 q1 q2 q3 = some R → Eqo fwI_X12_tree R.2.1 q0 ∧ Eqo fwM_X12_tree R.2.2.2 q2) (hg94 : ∀ q0 q1 q2 q3 q4 R, g94 q0 q1 q2 q3 q4 = some R → Eqo fwI_X12_tree R.2.1 q0 ∧ Eqo fwM_X12_tree R.2.2.2 q2) (hg115 : ∀ q0 q1 q2 q3 q4 R, g115 q0 q1 q2 q3 q4 = some R → Eqo fwI_X12_tree R.2.1 q0 ∧ Eqo fwM_X12_tree R.2.2.2 q2) {R} (h : fX12_tree_J258 N y94_3 g9 g57 g94 g115 I0_j258 L0_j258 M0_j258 y258_2 y258_4 y258_7 = some R) : Eqo fwI_X12_tree R.2.1 I0_j258 ∧ Eqo fwM_X12_tree R.2.2.2 M0_j258 := by
  unfold fX12_tree_J258 at h
  obtain ⟨r2, -, h⟩ := wb_b h
  rcases fr_i h with h | h
  · obtain ⟨v8, -, h⟩ := wb_v h
    have a1 := hg115 _ _ _ _ _ _ h
    exact ⟨a1.1.tr (by decide) (Eqo.refl fwI_X12_tree I0_j258), a1.2.tr (by decide) (Eqo.refl fwM_X12_tree M0_j258)⟩
  · have a2 := fr_fX12_tree_L274 hg9 hg57 hg94 hg115 _ _ _ _ _ _ h
    exact ⟨a2.1.tr (by decide) (Eqo.refl fwI_X12_tree I0_j258), a2.2.tr (by decide) (Eqo.refl fwM_X12_tree M0_j258)⟩
theorem fr_fX12_tree_J191 {N : Nat} {y115_2 : Int32} {y115_4 : Int32} {y94_3 : Int32} {g9 : (Nat → Int32) → Int64 → (Nat → Nat → Int32) → Int32 → Int32 → Option (Int32 × (Nat → Int32) × Int64 × (Nat → Nat → Int32))} {g57 : (Nat → Int32) → Int64 → (Nat → Nat → Int32) → Int32 → Option (Int32 × (Nat → Int32) × Int64 × (Nat → Nat → Int32))} {g94 : (Nat → Int32) → Int64 → (Nat → Nat → Int32) → Int32 → Int32 → Option (Int32 × (Nat → Int32) × Int64 × (Nat → Nat → Int32))} {g115 : (Nat → Int32) → Int64 → (Nat → Nat → Int32) → Int32 → Int32 → Option (Int32 × (Nat → Int32) × Int64 × (Nat → Nat → Int32))} {g134 : (Nat → Int32) → Int64 → (Nat → Nat → Int32) → Int32 → Int32 → Int32 → Int32 → Option (Int32 × (Nat → Int32) × Int64 × (Nat → Nat → Int32))} {I0_j191 : Nat → Int32} {L0_j191 : Int64} {M0_j191 : Nat → Nat → Int32} {y191_5 : Int32} {y191_7 : Int32} {y191_8 : Int32} {z191_0 : Int32} (hg9 : ∀ q0 q1 q2 q3 q4 R, g9 q0 q1 q2 q3 q4 = some R → Eqo fwI_X12_tree R.2.1 q0 ∧ Eqo fwM_X12_tree R.2.2.2 q2) (hg57 : ∀ q0 q1 q2 q3 R, g57 q0 q1 q2 q3 = some R → Eqo fwI_X12_tree R.2.1 q0 ∧ Eqo fwM_X12_tree R.2.2.2 q2) (hg94 : ∀ q0 q1 q2 q3 q4 R, g94 q0 q1 q2 q3 q4 = some R → Eqo fwI_X12_tree R.2.1 q0 ∧ Eqo fwM_X12_tree R.2.2.2 q2) (hg115 : ∀ q0 q1 q2 q3 q4 R, g115 q0 q1 q2 q3 q4 = some R → Eqo fwI_X12_tree R.2.1 q0 ∧ Eqo fwM_X12_tree R.2.2.2 q2) (hg134 : ∀ q0 q1 q2 q3 q4 q5 q6 R, g134 q0 q1 q2 q3 q4 q5 q6 = some R → Eqo fwI_X12_tree R.2.1 q0 ∧ Eqo fwM_X12_tree R.2.2.2 q2) {R} (h : fX12_tree_J191 N y115_2 y115_4 y94_3 g9 g57 g94 g115 g134 I0_j191 L0_j191 M0_j191 y191_5 y191_7 y191_8 z191_0 = some R) : Eqo fwI_X12_tree R.2.1 I0_j191 ∧ Eqo fwM_X12_tree R.2.2.2 M0_j191 := by
  unfold fX12_tree_J191 at h
  obtain ⟨-, h⟩ := wb_n h
  rcases fr_i h with h | h
  · obtain ⟨v10, -, h⟩ := wb_v h
    obtain ⟨v11, -, h⟩ := wb_v h
    have a1 := hg134 _ _ _ _ _ _ _ _ h
    exact ⟨a1.1.tr (by decide) (Eqo.refl fwI_X12_tree I0_j191), a1.2.tr (by decide) (Eqo.refl fwM_X12_tree M0_j191)⟩
  · rcases fr_i h with h | h
    · obtain ⟨v14, -, h⟩ := wb_v h
      obtain ⟨v15, -, h⟩ := wb_v h
      have a2 := hg134 _ _ _ _ _ _ _ _ h
      exact ⟨a2.1.tr (by decide) (Eqo.refl fwI_X12_tree I0_j191), a2.2.tr (by decide) (Eqo.refl fwM_X12_tree M0_j191)⟩
    · obtain ⟨-, h⟩ := wb_n h
      obtain ⟨-, h⟩ := wb_n h
      obtain ⟨v12, -, h⟩ := wb_v h
      obtain ⟨v13, -, h⟩ := wb_v h
      have a3 := hg134 _ _ _ _ _ _ _ _ h
      exact ⟨a3.1.tr (by decide) (Eqo.refl fwI_X12_tree I0_j191), a3.2.tr (by decide) (Eqo.refl fwM_X12_tree M0_j191)⟩
theorem fr_fX12_tree_J190 {N : Nat} {y115_2 : Int32} {y115_4 : Int32} {y94_3 : Int32} {g9 : (Nat → Int32) → Int64 → (Nat → Nat → Int32) → Int32 → Int32 → Option (Int32 × (Nat → Int32) × Int64 × (Nat → Nat → Int32))} {g57 : (Nat → Int32) → Int64 → (Nat → Nat → Int32) → Int32 → Option (Int32 × (Nat → Int32) × Int64 × (Nat → Nat → Int32))} {g94 : (Nat → Int32) → Int64 → (Nat → Nat → Int32) → Int32 → Int32 → Option (Int32 × (Nat → Int32) × Int64 × (Nat → Nat → Int32))} {g115 : (Nat → Int32) → Int64 → (Nat → Nat → Int32) → Int32 → Int32 → Option (Int32 × (Nat → Int32) × Int64 × (Nat → Nat → Int32))} {g134 : (Nat → Int32) → Int64 → (Nat → Nat → Int32) → Int32 → Int32 → Int32 → Int32 → Option (Int32 × (Nat → Int32) × Int64 × (Nat → Nat → Int32))} {I0_j190 : Nat → Int32} {L0_j190 : Int64} {M0_j190 : Nat → Nat → Int32} {y190_5 : Int32} {y190_7 : Int32} {y190_8 : Int32} (hg9 : ∀ q0 q1 q2 q3 q4 R, g9 q0 q1 q2 q3 q4 = some R → Eqo fwI_X12_tree R.2.1 q0 ∧ Eqo fwM_X12_tree R.2.2.2 q2) (hg57 : ∀ q0 q1 q2 q3 R, g57 q0 q1 q2 q3 = some R → Eqo fwI_X12_tree R.2.1 q0 ∧ Eqo fwM_X12_tree R.2.2.2 q2) (hg94 : ∀ q0 q1 q2 q3 q4 R, g94 q0 q1 q2 q3 q4 = some R → Eqo fwI_X12_tree R.2.1 q0 ∧ Eqo fwM_X12_tree R.2.2.2 q2) (hg115 : ∀ q0 q1 q2 q3 q4 R, g115 q0 q1 q2 q3 q4 = some R → Eqo fwI_X12_tree R.2.1 q0 ∧ Eqo fwM_X12_tree R.2.2.2 q2) (hg134 : ∀ q0 q1 q2 q3 q4 q5 q6 R, g134 q0 q1 q2 q3 q4 q5 q6 = some R → Eqo fwI_X12_tree R.2.1 q0 ∧ Eqo fwM_X12_tree R.2.2.2 q2) {R} (h : fX12_tree_J190 N y115_2 y115_4 y94_3 g9 g57 g94 g115 g134 I0_j190 L0_j190 M0_j190 y190_5 y190_7 y190_8 = some R) : Eqo fwI_X12_tree R.2.1 I0_j190 ∧ Eqo fwM_X12_tree R.2.2.2 M0_j190 := by
  unfold fX12_tree_J190 at h
  have a1 := fr_fX12_tree_J191 hg9 hg57 hg94 hg115 hg134 h
  exact ⟨a1.1.tr (by decide) (Eqo.refl fwI_X12_tree I0_j190), a1.2.tr (by decide) (Eqo.refl fwM_X12_tree M0_j190)⟩
theorem fr_fX12_tree_J186 {N : Nat} {y115_2 : Int32} {y115_4 : Int32} {y94_3 : Int32} {g9 : (Nat → Int32) → Int64 → (Nat → Nat → Int32) → Int32 → Int32 → Option (Int32 × (Nat → Int32) × Int64 × (Nat → Nat → Int32))} {g57 : (Nat → Int32) → Int64 → (Nat → Nat → Int32) → Int32 → Option (Int32 × (Nat → Int32) × Int64 × (Nat → Nat → Int32))} {g94 : (Nat → Int32) → Int64 → (Nat → Nat → Int32) → Int32 → Int32 → Option (Int32 × (Nat → Int32) × Int64 × (Nat → Nat → Int32))} {g115 : (Nat → Int32) → Int64 → (Nat → Nat → Int32) → Int32 → Int32 → Option (Int32 × (Nat → Int32) × Int64 × (Nat → Nat → Int32))} {g134 : (Nat → Int32) → Int64 → (Nat → Nat → Int32) → Int32 → Int32 → Int32 → Int32 → Option (Int32 × (Nat → Int32) × Int64 × (Nat → Nat → Int32))} {I0_j186 : Nat → Int32} {L0_j186 : Int64} {M0_j186 : Nat → Nat → Int32} {y186_5 : Int32} {y186_7 : Int32} {y186_8 : Int32} (hg9 : ∀ q0 q1 q2 q3 q4 R, g9 q0 q1 q2 q3 q4 = some R → Eqo fwI_X12_tree R.2.1 q0 ∧ Eqo fwM_X12_tree R.2.2.2 q2) (hg57 : ∀ q0 q1 q2 q3 R, g57 q0 q1 q2 q3 = some R → Eqo fwI_X12_tree R.2.1 q0 ∧ Eqo fwM_X12_tree R.2.2.2 q2) (hg94 : ∀ q0 q1 q2 q3 q4 R, g94 q0 q1 q2 q3 q4 = some R → Eqo fwI_X12_tree R.2.1 q0 ∧ Eqo fwM_X12_tree R.2.2.2 q2) (hg115 : ∀ q0 q1 q2 q3 q4 R, g115 q0 q1 q2 q3 q4 = some R → Eqo fwI_X12_tree R.2.1 q0 ∧ Eqo fwM_X12_tree R.2.2.2 q2) (hg134 : ∀ q0 q1 q2 q3 q4 q5 q6 R, g134 q0 q1 q2 q3 q4 q5 q6 = some R → Eqo fwI_X12_tree R.2.1 q0 ∧ Eqo fwM_X12_tree R.2.2.2 q2) {R} (h : fX12_tree_J186 N y115_2 y115_4 y94_3 g9 g57 g94 g115 g134 I0_j186 L0_j186 M0_j186 y186_5 y186_7 y186_8 = some R) : Eqo fwI_X12_tree R.2.1 I0_j186 ∧ Eqo fwM_X12_tree R.2.2.2 M0_j186 := by
  unfold fX12_tree_J186 at h
  have a1 := fr_fX12_tree_J191 hg9 hg57 hg94 hg115 hg134 h
  exact ⟨a1.1.tr (by decide) (Eqo.refl fwI_X12_tree I0_j186), a1.2.tr (by decide) (Eqo.refl fwM_X12_tree M0_j186)⟩
theorem fr_fX12_tree_L134 {N : Nat} {y115_2 : Int32} {y115_4 : Int32} {y94_3 : Int32} {g9 : (Nat → Int32) → Int64 → (Nat → Nat → Int32) → Int32 → Int32 → Option (Int32 × (Nat → Int32) × Int64 × (Nat → Nat → Int32))} {g57 : (Nat → Int32) → Int64 → (Nat → Nat → Int32) → Int32 → Option (Int32 × (Nat → Int32) × Int64 × (Nat → Nat → Int32))} {g94 : (Nat → Int32) → Int64 → (Nat → Nat → Int32) → Int32 → Int32 → Option (Int32 × (Nat → Int32) × Int64 × (Nat → Nat → Int32))} {g115 : (Nat → Int32) → Int64 → (Nat → Nat → Int32) → Int32 → Int32 → Option (Int32 × (Nat → Int32) × Int64 × (Nat → Nat → Int32))} (hg9 : ∀ q0 q1 q2 q3 q4 R, g9 q0 q1 q2 q3 q4 = some R → Eqo fwI_X12_tree R.2.1 q0 ∧ Eqo fwM_X12_tree R.2.2.2 q2) (hg57 : ∀ q0 q1 q2 q3 R, g57 q0 q1 q2 q3 = some R → Eqo fwI_X12_tree R.2.1 q0 ∧ Eqo fwM_X12_tree R.2.2.2 q2) (hg94 : ∀ q0 q1 q2 q3 q4 R, g94 q0 q1 q2 q3 q4 = some R → Eqo fwI_X12_tree R.2.1 q0 ∧ Eqo fwM_X12_tree R.2.2.2 q2) (hg115 : ∀ q0 q1 q2 q3 q4 R, g115 q0 q1 q2 q3 q4 = some R → Eqo fwI_X12_tree R.2.1 q0 ∧ Eqo fwM_X12_tree R.2.2.2 q2) : ∀ fu I0_l134 L0_l134 M0_l134 y134_5 y134_6 y134_7 y134_8 R, fX12_tree_L134 N y115_2 y115_4 y94_3 g9 g57 g94 g115 fu I0_l134 L0_l134 M0_l134 y134_5 y134_6 y134_7 y134_8 = some R → Eqo fwI_X12_tree R.2.1 I0_l134 ∧ Eqo fwM_X12_tree R.2.2.2 M0_l134 := by
  intro fu
  induction fu with
  | zero => intro I0_l134 L0_l134 M0_l134 y134_5 y134_6 y134_7 y134_8 R h; cases (show none = some R from h)
  | succ fu ih =>
    intro I0_l134 L0_l134 M0_l134 y134_5 y134_6 y134_7 y134_8 R h
    rw [fX12_tree_L134.eq_2] at h
    rcases fr_i h with h | h
    · rcases fr_i h with h | h
      · obtain ⟨v16, -, h⟩ := wb_v h
        have a1 := hg115 _ _ _ _ _ _ h
        exact ⟨a1.1.tr (by decide) (Eqo.refl fwI_X12_tree I0_l134), a1.2.tr (by decide) (Eqo.refl fwM_X12_tree M0_l134)⟩
      · rcases fr_i h with h | h
        · have a2 := fr_fX12_tree_J258 hg9 hg57 hg94 hg115 h
          exact ⟨a2.1.tr (by decide) (Eqo.refl fwI_X12_tree I0_l134), a2.2.tr (by decide) (Eqo.refl fwM_X12_tree M0_l134)⟩
        · rcases fr_i h with h | h
          · obtain ⟨v17, -, h⟩ := wb_v h
            have a3 := hg115 _ _ _ _ _ _ h
            exact ⟨a3.1.tr (by decide) (Eqo.refl fwI_X12_tree I0_l134), a3.2.tr (by decide) (Eqo.refl fwM_X12_tree M0_l134)⟩
          · have a4 := fr_fX12_tree_J258 hg9 hg57 hg94 hg115 h
            exact ⟨a4.1.tr (by decide) (Eqo.refl fwI_X12_tree I0_l134), a4.2.tr (by decide) (Eqo.refl fwM_X12_tree M0_l134)⟩
    · obtain ⟨-, h⟩ := wb_n h
      obtain ⟨M0_18, e_M0_18, h⟩ := wb_v h
      have f_M0_18 := Eqo.eq e_M0_18 (Eqo.m (by decide) (Eqo.refl fwM_X12_tree M0_l134))
      obtain ⟨v19, -, h⟩ := wb_v h
      rcases fr_i h with h | h
      · have c107 : ∀ q0 q1 q2 q3 q4 q5 q6 R, (fX12_tree_L134 N y115_2 y115_4 y94_3 g9 g57 g94 g115 fu q0 q1 q2 q3 q4 q5 q6) = some R → Eqo fwI_X12_tree R.2.1 q0 ∧ Eqo fwM_X12_tree R.2.2.2 q2 := by
            intro q0 q1 q2 q3 q4 q5 q6 R h
            have a106 := ih _ _ _ _ _ _ _ _ h
            exact ⟨a106.1.tr (by decide) (Eqo.refl fwI_X12_tree q0), a106.2.tr (by decide) (Eqo.refl fwM_X12_tree q2)⟩
        have a5 := fr_fX12_tree_J190 hg9 hg57 hg94 hg115 c107 h
        exact ⟨a5.1.tr (by decide) (Eqo.refl fwI_X12_tree I0_l134), a5.2.tr (by decide) f_M0_18⟩
      · obtain ⟨-, h⟩ := wb_n h
        rcases fr_i h with h | h
        · obtain ⟨-, h⟩ := wb_n h
          rcases fr_i h with h | h
          · have c210 : ∀ q0 q1 q2 q3 q4 q5 q6 R, (fX12_tree_L134 N y115_2 y115_4 y94_3 g9 g57 g94 g115 fu q0 q1 q2 q3 q4 q5 q6) = some R → Eqo fwI_X12_tree R.2.1 q0 ∧ Eqo fwM_X12_tree R.2.2.2 q2 := by
                intro q0 q1 q2 q3 q4 q5 q6 R h
                have a209 := ih _ _ _ _ _ _ _ _ h
                exact ⟨a209.1.tr (by decide) (Eqo.refl fwI_X12_tree q0), a209.2.tr (by decide) (Eqo.refl fwM_X12_tree q2)⟩
            have a108 := fr_fX12_tree_J186 hg9 hg57 hg94 hg115 c210 h
            exact ⟨a108.1.tr (by decide) (Eqo.refl fwI_X12_tree I0_l134), a108.2.tr (by decide) f_M0_18⟩
          · have c313 : ∀ q0 q1 q2 q3 q4 q5 q6 R, (fX12_tree_L134 N y115_2 y115_4 y94_3 g9 g57 g94 g115 fu q0 q1 q2 q3 q4 q5 q6) = some R → Eqo fwI_X12_tree R.2.1 q0 ∧ Eqo fwM_X12_tree R.2.2.2 q2 := by
                intro q0 q1 q2 q3 q4 q5 q6 R h
                have a312 := ih _ _ _ _ _ _ _ _ h
                exact ⟨a312.1.tr (by decide) (Eqo.refl fwI_X12_tree q0), a312.2.tr (by decide) (Eqo.refl fwM_X12_tree q2)⟩
            have a211 := fr_fX12_tree_J190 hg9 hg57 hg94 hg115 c313 h
            exact ⟨a211.1.tr (by decide) (Eqo.refl fwI_X12_tree I0_l134), a211.2.tr (by decide) f_M0_18⟩
        · have c416 : ∀ q0 q1 q2 q3 q4 q5 q6 R, (fX12_tree_L134 N y115_2 y115_4 y94_3 g9 g57 g94 g115 fu q0 q1 q2 q3 q4 q5 q6) = some R → Eqo fwI_X12_tree R.2.1 q0 ∧ Eqo fwM_X12_tree R.2.2.2 q2 := by
              intro q0 q1 q2 q3 q4 q5 q6 R h
              have a415 := ih _ _ _ _ _ _ _ _ h
              exact ⟨a415.1.tr (by decide) (Eqo.refl fwI_X12_tree q0), a415.2.tr (by decide) (Eqo.refl fwM_X12_tree q2)⟩
          have a314 := fr_fX12_tree_J186 hg9 hg57 hg94 hg115 c416 h
          exact ⟨a314.1.tr (by decide) (Eqo.refl fwI_X12_tree I0_l134), a314.2.tr (by decide) f_M0_18⟩
theorem fr_fX12_tree_L115 {N : Nat} {y94_3 : Int32} {g9 : (Nat → Int32) → Int64 → (Nat → Nat → Int32) → Int32 → Int32 → Option (Int32 × (Nat → Int32) × Int64 × (Nat → Nat → Int32))} {g57 : (Nat → Int32) → Int64 → (Nat → Nat → Int32) → Int32 → Option (Int32 × (Nat → Int32) × Int64 × (Nat → Nat → Int32))} {g94 : (Nat → Int32) → Int64 → (Nat → Nat → Int32) → Int32 → Int32 → Option (Int32 × (Nat → Int32) × Int64 × (Nat → Nat → Int32))} (hg9 : ∀ q0 q1 q2 q3 q4 R, g9 q0 q1 q2 q3 q4 = some R → Eqo fwI_X12_tree R.2.1 q0 ∧ Eqo fwM_X12_tree R.2.2.2 q2) (hg57 : ∀ q0 q1 q2 q3 R, g57 q0 q1 q2 q3 = some R → Eqo fwI_X12_tree R.2.1 q0 ∧ Eqo fwM_X12_tree R.2.2.2 q2) (hg94 : ∀ q0 q1 q2 q3 q4 R, g94 q0 q1 q2 q3 q4 = some R → Eqo fwI_X12_tree R.2.1 q0 ∧ Eqo fwM_X12_tree R.2.2.2 q2) : ∀ fu I0_l115 L0_l115 M0_l115 y115_2 y115_4 R, fX12_tree_L115 N y94_3 g9 g57 g94 fu I0_l115 L0_l115 M0_l115 y115_2 y115_4 = some R → Eqo fwI_X12_tree R.2.1 I0_l115 ∧ Eqo fwM_X12_tree R.2.2.2 M0_l115 := by
  intro fu
  induction fu with
  | zero => intro I0_l115 L0_l115 M0_l115 y115_2 y115_4 R h; cases (show none = some R from h)
  | succ fu ih =>
    intro I0_l115 L0_l115 M0_l115 y115_2 y115_4 R h
    rw [fX12_tree_L115.eq_2] at h
    rcases fr_i h with h | h
    · obtain ⟨I0_9, e_I0_9, h⟩ := wb_v h
      have f_I0_9 := Eqo.eq e_I0_9 (Eqo.u (by decide) (Eqo.refl fwI_X12_tree I0_l115))
      have h := Option.some.inj h
      subst h
      exact ⟨f_I0_9, (Eqo.refl fwM_X12_tree M0_l115)⟩
    · have c103 : ∀ q0 q1 q2 q3 q4 R, (fX12_tree_L115 N y94_3 g9 g57 g94 fu q0 q1 q2 q3 q4) = some R → Eqo fwI_X12_tree R.2.1 q0 ∧ Eqo fwM_X12_tree R.2.2.2 q2 := by
          intro q0 q1 q2 q3 q4 R h
          have a102 := ih _ _ _ _ _ _ h
          exact ⟨a102.1.tr (by decide) (Eqo.refl fwI_X12_tree q0), a102.2.tr (by decide) (Eqo.refl fwM_X12_tree q2)⟩
      have a1 := fr_fX12_tree_L134 hg9 hg57 hg94 c103 _ _ _ _ _ _ _ _ _ h
      exact ⟨a1.1.tr (by decide) (Eqo.refl fwI_X12_tree I0_l115), a1.2.tr (by decide) (Eqo.refl fwM_X12_tree M0_l115)⟩
theorem fr_fX12_tree_L94 {N : Nat} {g9 : (Nat → Int32) → Int64 → (Nat → Nat → Int32) → Int32 → Int32 → Option (Int32 × (Nat → Int32) × Int64 × (Nat → Nat → Int32))} {g57 : (Nat → Int32) → Int64 → (Nat → Nat → Int32) → Int32 → Option (Int32 × (Nat → Int32) × Int64 × (Nat → Nat → Int32))} (hg9 : ∀ q0 q1 q2 q3 q4 R, g9 q0 q1 q2 q3 q4 = some R → Eqo fwI_X12_tree R.2.1 q0 ∧ Eqo fwM_X12_tree R.2.2.2 q2) (hg57 : ∀ q0 q1 q2 q3 R, g57 q0 q1 q2 q3 = some R → Eqo fwI_X12_tree R.2.1 q0 ∧ Eqo fwM_X12_tree R.2.2.2 q2) : ∀ fu I0_l94 L0_l94 M0_l94 y94_3 y94_4 R, fX12_tree_L94 N g9 g57 fu I0_l94 L0_l94 M0_l94 y94_3 y94_4 = some R → Eqo fwI_X12_tree R.2.1 I0_l94 ∧ Eqo fwM_X12_tree R.2.2.2 M0_l94 := by
  intro fu
  induction fu with
  | zero => intro I0_l94 L0_l94 M0_l94 y94_3 y94_4 R h; cases (show none = some R from h)
  | succ fu ih =>
    intro I0_l94 L0_l94 M0_l94 y94_3 y94_4 R h
    rw [fX12_tree_L94.eq_2] at h
    rcases fr_i h with h | h
    · have c103 : ∀ q0 q1 q2 q3 q4 R, (fX12_tree_L94 N g9 g57 fu q0 q1 q2 q3 q4) = some R → Eqo fwI_X12_tree R.2.1 q0 ∧ Eqo fwM_X12_tree R.2.2.2 q2 := by
          intro q0 q1 q2 q3 q4 R h
          have a102 := ih _ _ _ _ _ _ h
          exact ⟨a102.1.tr (by decide) (Eqo.refl fwI_X12_tree q0), a102.2.tr (by decide) (Eqo.refl fwM_X12_tree q2)⟩
      have a1 := fr_fX12_tree_L115 hg9 hg57 c103 _ _ _ _ _ _ _ h
      exact ⟨a1.1.tr (by decide) (Eqo.refl fwI_X12_tree I0_l94), a1.2.tr (by decide) (Eqo.refl fwM_X12_tree M0_l94)⟩
    · obtain ⟨v20, -, h⟩ := wb_v h
      obtain ⟨v21, -, h⟩ := wb_v h
      have a104 := ih _ _ _ _ _ _ h
      exact ⟨a104.1.tr (by decide) (Eqo.refl fwI_X12_tree I0_l94), a104.2.tr (by decide) (Eqo.refl fwM_X12_tree M0_l94)⟩
theorem fr_fX12_tree_L57 {N : Nat} {g9 : (Nat → Int32) → Int64 → (Nat → Nat → Int32) → Int32 → Int32 → Option (Int32 × (Nat → Int32) × Int64 × (Nat → Nat → Int32))} (hg9 : ∀ q0 q1 q2 q3 q4 R, g9 q0 q1 q2 q3 q4 = some R → Eqo fwI_X12_tree R.2.1 q0 ∧ Eqo fwM_X12_tree R.2.2.2 q2) : ∀ fu I0_l57 L0_l57 M0_l57 y57_2 R, fX12_tree_L57 N g9 fu I0_l57 L0_l57 M0_l57 y57_2 = some R → Eqo fwI_X12_tree R.2.1 I0_l57 ∧ Eqo fwM_X12_tree R.2.2.2 M0_l57 := by
  intro fu
  induction fu with
  | zero => intro I0_l57 L0_l57 M0_l57 y57_2 R h; cases (show none = some R from h)
  | succ fu ih =>
    intro I0_l57 L0_l57 M0_l57 y57_2 R h
    rw [fX12_tree_L57.eq_2] at h
    rcases fr_i h with h | h
    · have c103 : ∀ q0 q1 q2 q3 R, (fX12_tree_L57 N g9 fu q0 q1 q2 q3) = some R → Eqo fwI_X12_tree R.2.1 q0 ∧ Eqo fwM_X12_tree R.2.2.2 q2 := by
          intro q0 q1 q2 q3 R h
          have a102 := ih _ _ _ _ _ h
          exact ⟨a102.1.tr (by decide) (Eqo.refl fwI_X12_tree q0), a102.2.tr (by decide) (Eqo.refl fwM_X12_tree q2)⟩
      have a1 := fr_fX12_tree_L94 hg9 c103 _ _ _ _ _ _ _ h
      exact ⟨a1.1.tr (by decide) (Eqo.refl fwI_X12_tree I0_l57), a1.2.tr (by decide) (Eqo.refl fwM_X12_tree M0_l57)⟩
    · obtain ⟨r22, -, h⟩ := wb_b h
      obtain ⟨-, h⟩ := wb_n h
      obtain ⟨M0_23, e_M0_23, h⟩ := wb_v h
      have f_M0_23 := Eqo.eq e_M0_23 (Eqo.m (by decide) (Eqo.refl fwM_X12_tree M0_l57))
      obtain ⟨v24, -, h⟩ := wb_v h
      have a104 := ih _ _ _ _ _ h
      exact ⟨a104.1.tr (by decide) (Eqo.refl fwI_X12_tree I0_l57), a104.2.tr (by decide) f_M0_23⟩
theorem fr_fX12_tree_L9 {N : Nat} : ∀ fu I0_l9 L0_l9 M0_l9 y9_1 y9_2 R, fX12_tree_L9 N fu I0_l9 L0_l9 M0_l9 y9_1 y9_2 = some R → Eqo fwI_X12_tree R.2.1 I0_l9 ∧ Eqo fwM_X12_tree R.2.2.2 M0_l9 := by
  intro fu
  induction fu with
  | zero => intro I0_l9 L0_l9 M0_l9 y9_1 y9_2 R h; cases (show none = some R from h)
  | succ fu ih =>
    intro I0_l9 L0_l9 M0_l9 y9_1 y9_2 R h
    rw [fX12_tree_L9.eq_2] at h
    rcases fr_i h with h | h
    · rcases fr_i h with h | h
      · have h := Option.some.inj h
        subst h
        exact ⟨(Eqo.refl fwI_X12_tree I0_l9), (Eqo.refl fwM_X12_tree M0_l9)⟩
      · have c103 : ∀ q0 q1 q2 q3 q4 R, (fX12_tree_L9 N fu q0 q1 q2 q3 q4) = some R → Eqo fwI_X12_tree R.2.1 q0 ∧ Eqo fwM_X12_tree R.2.2.2 q2 := by
            intro q0 q1 q2 q3 q4 R h
            have a102 := ih _ _ _ _ _ _ h
            exact ⟨a102.1.tr (by decide) (Eqo.refl fwI_X12_tree q0), a102.2.tr (by decide) (Eqo.refl fwM_X12_tree q2)⟩
        have a1 := fr_fX12_tree_L57 c103 _ _ _ _ _ _ h
        exact ⟨a1.1.tr (by decide) (Eqo.refl fwI_X12_tree I0_l9), a1.2.tr (by decide) (Eqo.refl fwM_X12_tree M0_l9)⟩
    · obtain ⟨r25, -, h⟩ := wb_b h
      obtain ⟨-, h⟩ := wb_n h
      obtain ⟨M0_26, e_M0_26, h⟩ := wb_v h
      have f_M0_26 := Eqo.eq e_M0_26 (Eqo.m (by decide) (Eqo.refl fwM_X12_tree M0_l9))
      obtain ⟨-, h⟩ := wb_n h
      rcases fr_i h with h | h
      · obtain ⟨v27, -, h⟩ := wb_v h
        obtain ⟨v28, -, h⟩ := wb_v h
        have a104 := ih _ _ _ _ _ _ h
        exact ⟨a104.1.tr (by decide) (Eqo.refl fwI_X12_tree I0_l9), a104.2.tr (by decide) f_M0_26⟩
      · obtain ⟨v29, -, h⟩ := wb_v h
        obtain ⟨v30, -, h⟩ := wb_v h
        have a105 := ih _ _ _ _ _ _ h
        exact ⟨a105.1.tr (by decide) (Eqo.refl fwI_X12_tree I0_l9), a105.2.tr (by decide) f_M0_26⟩
theorem fr_fX12_tree {N : Nat} {I0 : Nat → Int32} {L0 : Int64} {M0 : Nat → Nat → Int32} {R} (h : fX12_tree N I0 L0 M0 = some R) : Eqo fwI_X12_tree R.2.1 I0 ∧ Eqo fwM_X12_tree R.2.2.2 M0 := by
  unfold fX12_tree at h
  obtain ⟨I0_1, e_I0_1, h⟩ := wb_v h
  have f_I0_1 := Eqo.eq e_I0_1 (Eqo.u (by decide) (Eqo.refl fwI_X12_tree I0))
  have a1 := fr_fX12_tree_L9 _ _ _ _ _ _ _ h
  exact ⟨a1.1.tr (by decide) f_I0_1, a1.2.tr (by decide) (Eqo.refl fwM_X12_tree M0)⟩
abbrev fwI_X12_whence : List Nat := [0]
abbrev fwM_X12_whence : List Nat := []
theorem fr_fX12_whence_J37 {N : Nat} {x1 : Int32} {I0_j37 : Nat → Int32} {L0_j37 : Int64} {M0_j37 : Nat → Nat → Int32} {z37_0 : Int32} {R} (h : fX12_whence_J37 N x1 I0_j37 L0_j37 M0_j37 z37_0 = some R) : Eqo fwI_X12_whence R.2.1 I0_j37 ∧ Eqo fwM_X12_whence R.2.2.2 M0_j37 := by
  unfold fX12_whence_J37 at h
  obtain ⟨r1, e_r1, h⟩ := wb_b h
  have a1 := fr_fX12_right e_r1
  have fI_r1 := a1.1.tr (W := fwI_X12_whence) (by decide) (Eqo.refl fwI_X12_whence I0_j37)
  have fM_r1 := a1.2.tr (W := fwM_X12_whence) (by decide) (Eqo.refl fwM_X12_whence M0_j37)
  rcases fr_i h with h | h
  · have h := Option.some.inj h
    subst h
    exact ⟨fI_r1, fM_r1⟩
  · obtain ⟨-, h⟩ := wb_n h
    have h := Option.some.inj h
    subst h
    exact ⟨fI_r1, fM_r1⟩
theorem fr_fX12_whence_J36 {N : Nat} {x1 : Int32} {I0_j36 : Nat → Int32} {L0_j36 : Int64} {M0_j36 : Nat → Nat → Int32} {R} (h : fX12_whence_J36 N x1 I0_j36 L0_j36 M0_j36 = some R) : Eqo fwI_X12_whence R.2.1 I0_j36 ∧ Eqo fwM_X12_whence R.2.2.2 M0_j36 := by
  unfold fX12_whence_J36 at h
  have a1 := fr_fX12_whence_J37 h
  exact ⟨a1.1.tr (by decide) (Eqo.refl fwI_X12_whence I0_j36), a1.2.tr (by decide) (Eqo.refl fwM_X12_whence M0_j36)⟩
theorem fr_fX12_whence {N : Nat} {I0 : Nat → Int32} {L0 : Int64} {M0 : Nat → Nat → Int32} {x1 : Int32} {R} (h : fX12_whence N I0 L0 M0 x1 = some R) : Eqo fwI_X12_whence R.2.1 I0 ∧ Eqo fwM_X12_whence R.2.2.2 M0 := by
  unfold fX12_whence at h
  obtain ⟨I0_2, e_I0_2, h⟩ := wb_v h
  have f_I0_2 := Eqo.eq e_I0_2 (Eqo.u (by decide) (Eqo.refl fwI_X12_whence I0))
  obtain ⟨r3, e_r3, h⟩ := wb_b h
  have a1 := fr_fX12_isBook e_r3
  have fI_r3 := a1.1.tr (W := fwI_X12_whence) (by decide) f_I0_2
  have fM_r3 := a1.2.tr (W := fwM_X12_whence) (by decide) (Eqo.refl fwM_X12_whence M0)
  rcases fr_i h with h | h
  · have h := Option.some.inj h
    subst h
    exact ⟨fI_r3, fM_r3⟩
  · rcases fr_i h with h | h
    · have a2 := fr_fX12_whence_J36 h
      exact ⟨a2.1.tr (by decide) fI_r3, a2.2.tr (by decide) fM_r3⟩
    · obtain ⟨-, h⟩ := wb_n h
      rcases fr_i h with h | h
      · have a3 := fr_fX12_whence_J36 h
        exact ⟨a3.1.tr (by decide) fI_r3, a3.2.tr (by decide) fM_r3⟩
      · have a4 := fr_fX12_whence_J37 h
        exact ⟨a4.1.tr (by decide) fI_r3, a4.2.tr (by decide) fM_r3⟩
abbrev fwI_X12_slips : List Nat := [0]
abbrev fwM_X12_slips : List Nat := []
theorem fr_fX12_slips_J178 {N : Nat} {x1 : Int32} {x2 : Int32} {y52_4 : Int32} {g52 : (Nat → Int32) → Int64 → (Nat → Nat → Int32) → Int32 → Int32 → Option (Int32 × (Nat → Int32) × Int64 × (Nat → Nat → Int32))} {g62 : (Nat → Int32) → Int64 → (Nat → Nat → Int32) → Int32 → Int32 → Option (Int32 × (Nat → Int32) × Int64 × (Nat → Nat → Int32))} {I0_j178 : Nat → Int32} {L0_j178 : Int64} {M0_j178 : Nat → Nat → Int32} {y178_3 : Int32} {y178_5 : Int32} {y178_6 : Int32} {y178_7 : Int32} {y178_8 : Int32} (hg52 : ∀ q0 q1 q2 q3 q4 R, g52 q0 q1 q2 q3 q4 = some R → Eqo fwI_X12_slips R.2.1 q0 ∧ Eqo fwM_X12_slips R.2.2.2 q2) (hg62 : ∀ q0 q1 q2 q3 q4 R, g62 q0 q1 q2 q3 q4 = some R → Eqo fwI_X12_slips R.2.1 q0 ∧ Eqo fwM_X12_slips R.2.2.2 q2) {R} (h : fX12_slips_J178 N x1 x2 y52_4 g52 g62 I0_j178 L0_j178 M0_j178 y178_3 y178_5 y178_6 y178_7 y178_8 = some R) : Eqo fwI_X12_slips R.2.1 I0_j178 ∧ Eqo fwM_X12_slips R.2.2.2 M0_j178 := by
  unfold fX12_slips_J178 at h
  rcases fr_i h with h | h
  · rcases fr_i h with h | h
    · rcases fr_i h with h | h
      · obtain ⟨v5, -, h⟩ := wb_v h
        obtain ⟨v6, -, h⟩ := wb_v h
        have a1 := hg62 _ _ _ _ _ _ h
        exact ⟨a1.1.tr (by decide) (Eqo.refl fwI_X12_slips I0_j178), a1.2.tr (by decide) (Eqo.refl fwM_X12_slips M0_j178)⟩
      · obtain ⟨v4, -, h⟩ := wb_v h
        have a2 := hg62 _ _ _ _ _ _ h
        exact ⟨a2.1.tr (by decide) (Eqo.refl fwI_X12_slips I0_j178), a2.2.tr (by decide) (Eqo.refl fwM_X12_slips M0_j178)⟩
    · obtain ⟨v3, -, h⟩ := wb_v h
      have a3 := hg62 _ _ _ _ _ _ h
      exact ⟨a3.1.tr (by decide) (Eqo.refl fwI_X12_slips I0_j178), a3.2.tr (by decide) (Eqo.refl fwM_X12_slips M0_j178)⟩
  · obtain ⟨v2, -, h⟩ := wb_v h
    have a4 := hg62 _ _ _ _ _ _ h
    exact ⟨a4.1.tr (by decide) (Eqo.refl fwI_X12_slips I0_j178), a4.2.tr (by decide) (Eqo.refl fwM_X12_slips M0_j178)⟩
theorem fr_fX12_slips_L62 {N : Nat} {x1 : Int32} {x2 : Int32} {y52_4 : Int32} {g52 : (Nat → Int32) → Int64 → (Nat → Nat → Int32) → Int32 → Int32 → Option (Int32 × (Nat → Int32) × Int64 × (Nat → Nat → Int32))} (hg52 : ∀ q0 q1 q2 q3 q4 R, g52 q0 q1 q2 q3 q4 = some R → Eqo fwI_X12_slips R.2.1 q0 ∧ Eqo fwM_X12_slips R.2.2.2 q2) : ∀ fu I0_l62 L0_l62 M0_l62 y62_3 y62_5 R, fX12_slips_L62 N x1 x2 y52_4 g52 fu I0_l62 L0_l62 M0_l62 y62_3 y62_5 = some R → Eqo fwI_X12_slips R.2.1 I0_l62 ∧ Eqo fwM_X12_slips R.2.2.2 M0_l62 := by
  intro fu
  induction fu with
  | zero => intro I0_l62 L0_l62 M0_l62 y62_3 y62_5 R h; cases (show none = some R from h)
  | succ fu ih =>
    intro I0_l62 L0_l62 M0_l62 y62_3 y62_5 R h
    rw [fX12_slips_L62.eq_2] at h
    rcases fr_i h with h | h
    · obtain ⟨v7, -, h⟩ := wb_v h
      have a1 := hg52 _ _ _ _ _ _ h
      exact ⟨a1.1.tr (by decide) (Eqo.refl fwI_X12_slips I0_l62), a1.2.tr (by decide) (Eqo.refl fwM_X12_slips M0_l62)⟩
    · obtain ⟨-, h⟩ := wb_n h
      rcases fr_i h with h | h
      · obtain ⟨v8, -, h⟩ := wb_v h
        have a2 := hg52 _ _ _ _ _ _ h
        exact ⟨a2.1.tr (by decide) (Eqo.refl fwI_X12_slips I0_l62), a2.2.tr (by decide) (Eqo.refl fwM_X12_slips M0_l62)⟩
      · obtain ⟨r9b, -, h⟩ := wb_b h
        obtain ⟨-, h⟩ := wb_n h
        obtain ⟨r10, -, h⟩ := wb_b h
        rcases fr_i h with h | h
        · obtain ⟨v11, -, h⟩ := wb_v h
          have a3 := ih _ _ _ _ _ _ h
          exact ⟨a3.1.tr (by decide) (Eqo.refl fwI_X12_slips I0_l62), a3.2.tr (by decide) (Eqo.refl fwM_X12_slips M0_l62)⟩
        · rcases fr_i h with h | h
          · obtain ⟨v15, -, h⟩ := wb_v h
            have a4 := ih _ _ _ _ _ _ h
            exact ⟨a4.1.tr (by decide) (Eqo.refl fwI_X12_slips I0_l62), a4.2.tr (by decide) (Eqo.refl fwM_X12_slips M0_l62)⟩
          · obtain ⟨r12, -, h⟩ := wb_b h
            rcases fr_i h with h | h
            · rcases fr_i h with h | h
              · rcases fr_i h with h | h
                · obtain ⟨v13, -, h⟩ := wb_v h
                  obtain ⟨v14, -, h⟩ := wb_v h
                  have a5 := ih _ _ _ _ _ _ h
                  exact ⟨a5.1.tr (by decide) (Eqo.refl fwI_X12_slips I0_l62), a5.2.tr (by decide) (Eqo.refl fwM_X12_slips M0_l62)⟩
                · have c108 : ∀ q0 q1 q2 q3 q4 R, (fX12_slips_L62 N x1 x2 y52_4 g52 fu q0 q1 q2 q3 q4) = some R → Eqo fwI_X12_slips R.2.1 q0 ∧ Eqo fwM_X12_slips R.2.2.2 q2 := by
                      intro q0 q1 q2 q3 q4 R h
                      have a107 := ih _ _ _ _ _ _ h
                      exact ⟨a107.1.tr (by decide) (Eqo.refl fwI_X12_slips q0), a107.2.tr (by decide) (Eqo.refl fwM_X12_slips q2)⟩
                  have a6 := fr_fX12_slips_J178 hg52 c108 h
                  exact ⟨a6.1.tr (by decide) (Eqo.refl fwI_X12_slips I0_l62), a6.2.tr (by decide) (Eqo.refl fwM_X12_slips M0_l62)⟩
              · have c211 : ∀ q0 q1 q2 q3 q4 R, (fX12_slips_L62 N x1 x2 y52_4 g52 fu q0 q1 q2 q3 q4) = some R → Eqo fwI_X12_slips R.2.1 q0 ∧ Eqo fwM_X12_slips R.2.2.2 q2 := by
                    intro q0 q1 q2 q3 q4 R h
                    have a210 := ih _ _ _ _ _ _ h
                    exact ⟨a210.1.tr (by decide) (Eqo.refl fwI_X12_slips q0), a210.2.tr (by decide) (Eqo.refl fwM_X12_slips q2)⟩
                have a109 := fr_fX12_slips_J178 hg52 c211 h
                exact ⟨a109.1.tr (by decide) (Eqo.refl fwI_X12_slips I0_l62), a109.2.tr (by decide) (Eqo.refl fwM_X12_slips M0_l62)⟩
            · have c314 : ∀ q0 q1 q2 q3 q4 R, (fX12_slips_L62 N x1 x2 y52_4 g52 fu q0 q1 q2 q3 q4) = some R → Eqo fwI_X12_slips R.2.1 q0 ∧ Eqo fwM_X12_slips R.2.2.2 q2 := by
                  intro q0 q1 q2 q3 q4 R h
                  have a313 := ih _ _ _ _ _ _ h
                  exact ⟨a313.1.tr (by decide) (Eqo.refl fwI_X12_slips q0), a313.2.tr (by decide) (Eqo.refl fwM_X12_slips q2)⟩
              have a212 := fr_fX12_slips_J178 hg52 c314 h
              exact ⟨a212.1.tr (by decide) (Eqo.refl fwI_X12_slips I0_l62), a212.2.tr (by decide) (Eqo.refl fwM_X12_slips M0_l62)⟩
theorem fr_fX12_slips_L52 {N : Nat} {x1 : Int32} {x2 : Int32} : ∀ fu I0_l52 L0_l52 M0_l52 y52_3 y52_4 R, fX12_slips_L52 N x1 x2 fu I0_l52 L0_l52 M0_l52 y52_3 y52_4 = some R → Eqo fwI_X12_slips R.2.1 I0_l52 ∧ Eqo fwM_X12_slips R.2.2.2 M0_l52 := by
  intro fu
  induction fu with
  | zero => intro I0_l52 L0_l52 M0_l52 y52_3 y52_4 R h; cases (show none = some R from h)
  | succ fu ih =>
    intro I0_l52 L0_l52 M0_l52 y52_3 y52_4 R h
    rw [fX12_slips_L52.eq_2] at h
    rcases fr_i h with h | h
    · have h := Option.some.inj h
      subst h
      exact ⟨(Eqo.refl fwI_X12_slips I0_l52), (Eqo.refl fwM_X12_slips M0_l52)⟩
    · have c103 : ∀ q0 q1 q2 q3 q4 R, (fX12_slips_L52 N x1 x2 fu q0 q1 q2 q3 q4) = some R → Eqo fwI_X12_slips R.2.1 q0 ∧ Eqo fwM_X12_slips R.2.2.2 q2 := by
          intro q0 q1 q2 q3 q4 R h
          have a102 := ih _ _ _ _ _ _ h
          exact ⟨a102.1.tr (by decide) (Eqo.refl fwI_X12_slips q0), a102.2.tr (by decide) (Eqo.refl fwM_X12_slips q2)⟩
      have a1 := fr_fX12_slips_L62 c103 _ _ _ _ _ _ _ h
      exact ⟨a1.1.tr (by decide) (Eqo.refl fwI_X12_slips I0_l52), a1.2.tr (by decide) (Eqo.refl fwM_X12_slips M0_l52)⟩
theorem fr_fX12_slips_J38 {N : Nat} {x1 : Int32} {x2 : Int32} {I0_j38 : Nat → Int32} {L0_j38 : Int64} {M0_j38 : Nat → Nat → Int32} {z38_0 : Int32} {R} (h : fX12_slips_J38 N x1 x2 I0_j38 L0_j38 M0_j38 z38_0 = some R) : Eqo fwI_X12_slips R.2.1 I0_j38 ∧ Eqo fwM_X12_slips R.2.2.2 M0_j38 := by
  unfold fX12_slips_J38 at h
  obtain ⟨r1, e_r1, h⟩ := wb_b h
  have a1 := fr_fX12_right e_r1
  have fI_r1 := a1.1.tr (W := fwI_X12_slips) (by decide) (Eqo.refl fwI_X12_slips I0_j38)
  have fM_r1 := a1.2.tr (W := fwM_X12_slips) (by decide) (Eqo.refl fwM_X12_slips M0_j38)
  rcases fr_i h with h | h
  · have h := Option.some.inj h
    subst h
    exact ⟨fI_r1, fM_r1⟩
  · have a2 := fr_fX12_slips_L52 _ _ _ _ _ _ _ h
    exact ⟨a2.1.tr (by decide) fI_r1, a2.2.tr (by decide) fM_r1⟩
theorem fr_fX12_slips_J37 {N : Nat} {x1 : Int32} {x2 : Int32} {I0_j37 : Nat → Int32} {L0_j37 : Int64} {M0_j37 : Nat → Nat → Int32} {R} (h : fX12_slips_J37 N x1 x2 I0_j37 L0_j37 M0_j37 = some R) : Eqo fwI_X12_slips R.2.1 I0_j37 ∧ Eqo fwM_X12_slips R.2.2.2 M0_j37 := by
  unfold fX12_slips_J37 at h
  have a1 := fr_fX12_slips_J38 h
  exact ⟨a1.1.tr (by decide) (Eqo.refl fwI_X12_slips I0_j37), a1.2.tr (by decide) (Eqo.refl fwM_X12_slips M0_j37)⟩
theorem fr_fX12_slips {N : Nat} {I0 : Nat → Int32} {L0 : Int64} {M0 : Nat → Nat → Int32} {x1 : Int32} {x2 : Int32} {R} (h : fX12_slips N I0 L0 M0 x1 x2 = some R) : Eqo fwI_X12_slips R.2.1 I0 ∧ Eqo fwM_X12_slips R.2.2.2 M0 := by
  unfold fX12_slips at h
  obtain ⟨I0_16, e_I0_16, h⟩ := wb_v h
  have f_I0_16 := Eqo.eq e_I0_16 (Eqo.u (by decide) (Eqo.refl fwI_X12_slips I0))
  obtain ⟨r17, -, h⟩ := wb_b h
  rcases fr_i h with h | h
  · have a1 := fr_fX12_slips_J37 h
    exact ⟨a1.1.tr (by decide) f_I0_16, a1.2.tr (by decide) (Eqo.refl fwM_X12_slips M0)⟩
  · obtain ⟨r18, -, h⟩ := wb_b h
    rcases fr_i h with h | h
    · have a2 := fr_fX12_slips_J37 h
      exact ⟨a2.1.tr (by decide) f_I0_16, a2.2.tr (by decide) (Eqo.refl fwM_X12_slips M0)⟩
    · rcases fr_i h with h | h
      · have a3 := fr_fX12_slips_J37 h
        exact ⟨a3.1.tr (by decide) f_I0_16, a3.2.tr (by decide) (Eqo.refl fwM_X12_slips M0)⟩
      · have a4 := fr_fX12_slips_J38 h
        exact ⟨a4.1.tr (by decide) f_I0_16, a4.2.tr (by decide) (Eqo.refl fwM_X12_slips M0)⟩
abbrev fwI_X12_handed : List Nat := [0]
abbrev fwM_X12_handed : List Nat := []
theorem fr_fX12_handed_L37 {N : Nat} {x1 : Int32} {x2 : Int32} {x3 : Int32} : ∀ fu I0_l37 L0_l37 M0_l37 y37_4 y37_5 R, fX12_handed_L37 N x1 x2 x3 fu I0_l37 L0_l37 M0_l37 y37_4 y37_5 = some R → Eqo fwI_X12_handed R.2.1 I0_l37 ∧ Eqo fwM_X12_handed R.2.2.2 M0_l37 := by
  intro fu
  induction fu with
  | zero => intro I0_l37 L0_l37 M0_l37 y37_4 y37_5 R h; cases (show none = some R from h)
  | succ fu ih =>
    intro I0_l37 L0_l37 M0_l37 y37_4 y37_5 R h
    rw [fX12_handed_L37.eq_2] at h
    rcases fr_i h with h | h
    · have h := Option.some.inj h
      subst h
      exact ⟨(Eqo.refl fwI_X12_handed I0_l37), (Eqo.refl fwM_X12_handed M0_l37)⟩
    · obtain ⟨-, h⟩ := wb_n h
      obtain ⟨v5, -, h⟩ := wb_v h
      obtain ⟨-, h⟩ := wb_n h
      obtain ⟨v6, -, h⟩ := wb_v h
      obtain ⟨-, h⟩ := wb_n h
      obtain ⟨v7, -, h⟩ := wb_v h
      rcases fr_i h with h | h
      · obtain ⟨v8, -, h⟩ := wb_v h
        have a1 := ih _ _ _ _ _ _ h
        exact ⟨a1.1.tr (by decide) (Eqo.refl fwI_X12_handed I0_l37), a1.2.tr (by decide) (Eqo.refl fwM_X12_handed M0_l37)⟩
      · rcases fr_i h with h | h
        · rcases fr_i h with h | h
          · obtain ⟨v10, -, h⟩ := wb_v h
            have a2 := ih _ _ _ _ _ _ h
            exact ⟨a2.1.tr (by decide) (Eqo.refl fwI_X12_handed I0_l37), a2.2.tr (by decide) (Eqo.refl fwM_X12_handed M0_l37)⟩
          · rcases fr_i h with h | h
            · obtain ⟨v11, -, h⟩ := wb_v h
              have a3 := ih _ _ _ _ _ _ h
              exact ⟨a3.1.tr (by decide) (Eqo.refl fwI_X12_handed I0_l37), a3.2.tr (by decide) (Eqo.refl fwM_X12_handed M0_l37)⟩
            · obtain ⟨v12, -, h⟩ := wb_v h
              obtain ⟨v13, -, h⟩ := wb_v h
              have a4 := ih _ _ _ _ _ _ h
              exact ⟨a4.1.tr (by decide) (Eqo.refl fwI_X12_handed I0_l37), a4.2.tr (by decide) (Eqo.refl fwM_X12_handed M0_l37)⟩
        · obtain ⟨v9, -, h⟩ := wb_v h
          have a5 := ih _ _ _ _ _ _ h
          exact ⟨a5.1.tr (by decide) (Eqo.refl fwI_X12_handed I0_l37), a5.2.tr (by decide) (Eqo.refl fwM_X12_handed M0_l37)⟩

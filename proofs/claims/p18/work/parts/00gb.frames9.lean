abbrev fwI_X9_step : List Nat := [2, 3, 4, 5]
abbrev fwM_X9_step : List Nat := []
theorem fr_fX9_step_J254 {N : Nat} {I0_j254 : Nat → Int32} {M0_j254 : Nat → Nat → Int32} {z254_0 : Int32} {R} (h : fX9_step_J254 N I0_j254 M0_j254 z254_0 = some R) : Eqo fwI_X9_step R.1 I0_j254 ∧ Eqo fwM_X9_step R.2 M0_j254 := by
  unfold fX9_step_J254 at h
  obtain ⟨I0_1, e_I0_1, h⟩ := wb_v h
  have f_I0_1 := Eqo.eq e_I0_1 (Eqo.u (by decide) (Eqo.refl fwI_X9_step I0_j254))
  obtain ⟨I0_2, e_I0_2, h⟩ := wb_v h
  have f_I0_2 := Eqo.eq e_I0_2 (Eqo.u (by decide) f_I0_1)
  have h := Option.some.inj h
  subst h
  exact ⟨f_I0_2, (Eqo.refl fwM_X9_step M0_j254)⟩
theorem fr_fX9_step_J218 {N : Nat} {g150 : (Nat → Int32) → (Nat → Nat → Int32) → Option ((Nat → Int32) × (Nat → Nat → Int32))} {I0_j218 : Nat → Int32} {M0_j218 : Nat → Nat → Int32} {z218_0 : Int32} (hg150 : ∀ q0 q1 R, g150 q0 q1 = some R → Eqo fwI_X9_step R.1 q0 ∧ Eqo fwM_X9_step R.2 q1) {R} (h : fX9_step_J218 N g150 I0_j218 M0_j218 z218_0 = some R) : Eqo fwI_X9_step R.1 I0_j218 ∧ Eqo fwM_X9_step R.2 M0_j218 := by
  unfold fX9_step_J218 at h
  obtain ⟨I0_8, e_I0_8, h⟩ := wb_v h
  have f_I0_8 := Eqo.eq e_I0_8 (Eqo.u (by decide) (Eqo.refl fwI_X9_step I0_j218))
  obtain ⟨I0_9, e_I0_9, h⟩ := wb_v h
  have f_I0_9 := Eqo.eq e_I0_9 (Eqo.u (by decide) f_I0_8)
  have a1 := hg150 _ _ _ h
  exact ⟨a1.1.tr (by decide) f_I0_9, a1.2.tr (by decide) (Eqo.refl fwM_X9_step M0_j218)⟩
theorem fr_fX9_step_L150 {N : Nat} : ∀ fu I0_l150 M0_l150 R, fX9_step_L150 N fu I0_l150 M0_l150 = some R → Eqo fwI_X9_step R.1 I0_l150 ∧ Eqo fwM_X9_step R.2 M0_l150 := by
  intro fu
  induction fu with
  | zero => intro I0_l150 M0_l150 R h; cases (show none = some R from h)
  | succ fu ih =>
    intro I0_l150 M0_l150 R h
    rw [fX9_step_L150.eq_2] at h
    rcases fr_i h with h | h
    · have h := Option.some.inj h
      subst h
      exact ⟨(Eqo.refl fwI_X9_step I0_l150), (Eqo.refl fwM_X9_step M0_l150)⟩
    · obtain ⟨-, h⟩ := wb_n h
      obtain ⟨r10, -, h⟩ := wb_b h
      rcases fr_i h with h | h
      · have h := Option.some.inj h
        subst h
        exact ⟨(Eqo.refl fwI_X9_step I0_l150), (Eqo.refl fwM_X9_step M0_l150)⟩
      · rcases fr_i h with h | h
        · have c103 : ∀ q0 q1 R, (fX9_step_L150 N fu q0 q1) = some R → Eqo fwI_X9_step R.1 q0 ∧ Eqo fwM_X9_step R.2 q1 := by
              intro q0 q1 R h
              have a102 := ih _ _ _ h
              exact ⟨a102.1.tr (by decide) (Eqo.refl fwI_X9_step q0), a102.2.tr (by decide) (Eqo.refl fwM_X9_step q1)⟩
          have a1 := fr_fX9_step_J218 c103 h
          exact ⟨a1.1.tr (by decide) (Eqo.refl fwI_X9_step I0_l150), a1.2.tr (by decide) (Eqo.refl fwM_X9_step M0_l150)⟩
        · obtain ⟨-, h⟩ := wb_n h
          have c206 : ∀ q0 q1 R, (fX9_step_L150 N fu q0 q1) = some R → Eqo fwI_X9_step R.1 q0 ∧ Eqo fwM_X9_step R.2 q1 := by
              intro q0 q1 R h
              have a205 := ih _ _ _ h
              exact ⟨a205.1.tr (by decide) (Eqo.refl fwI_X9_step q0), a205.2.tr (by decide) (Eqo.refl fwM_X9_step q1)⟩
          have a104 := fr_fX9_step_J218 c206 h
          exact ⟨a104.1.tr (by decide) (Eqo.refl fwI_X9_step I0_l150), a104.2.tr (by decide) (Eqo.refl fwM_X9_step M0_l150)⟩
theorem fr_fX9_step_L86 {N : Nat} : ∀ fu I0_l86 M0_l86 R, fX9_step_L86 N fu I0_l86 M0_l86 = some R → Eqo fwI_X9_step R.1 I0_l86 ∧ Eqo fwM_X9_step R.2 M0_l86 := by
  intro fu
  induction fu with
  | zero => intro I0_l86 M0_l86 R h; cases (show none = some R from h)
  | succ fu ih =>
    intro I0_l86 M0_l86 R h
    rw [fX9_step_L86.eq_2] at h
    rcases fr_i h with h | h
    · have h := Option.some.inj h
      subst h
      exact ⟨(Eqo.refl fwI_X9_step I0_l86), (Eqo.refl fwM_X9_step M0_l86)⟩
    · obtain ⟨-, h⟩ := wb_n h
      obtain ⟨r12, -, h⟩ := wb_b h
      rcases fr_i h with h | h
      · have h := Option.some.inj h
        subst h
        exact ⟨(Eqo.refl fwI_X9_step I0_l86), (Eqo.refl fwM_X9_step M0_l86)⟩
      · obtain ⟨I0_13, e_I0_13, h⟩ := wb_v h
        have f_I0_13 := Eqo.eq e_I0_13 (Eqo.u (by decide) (Eqo.refl fwI_X9_step I0_l86))
        have a1 := ih _ _ _ h
        exact ⟨a1.1.tr (by decide) f_I0_13, a1.2.tr (by decide) (Eqo.refl fwM_X9_step M0_l86)⟩
theorem fr_fX9_step_J39 {N : Nat} {I0_j39 : Nat → Int32} {M0_j39 : Nat → Nat → Int32} {R} (h : fX9_step_J39 N I0_j39 M0_j39 = some R) : Eqo fwI_X9_step R.1 I0_j39 ∧ Eqo fwM_X9_step R.2 M0_j39 := by
  unfold fX9_step_J39 at h
  obtain ⟨I0_3, e_I0_3, h⟩ := wb_v h
  have f_I0_3 := Eqo.eq e_I0_3 (Eqo.u (by decide) (Eqo.refl fwI_X9_step I0_j39))
  rcases fr_i h with h | h
  · obtain ⟨-, h⟩ := wb_n h
    obtain ⟨r4, -, h⟩ := wb_b h
    rcases fr_i h with h | h
    · obtain ⟨-, h⟩ := wb_n h
      obtain ⟨r5, -, h⟩ := wb_b h
      rcases fr_i h with h | h
      · obtain ⟨-, h⟩ := wb_n h
        rcases fr_i h with h | h
        · have a1 := fr_fX9_step_J254 h
          exact ⟨a1.1.tr (by decide) f_I0_3, a1.2.tr (by decide) (Eqo.refl fwM_X9_step M0_j39)⟩
        · have a2 := fr_fX9_step_J254 h
          exact ⟨a2.1.tr (by decide) f_I0_3, a2.2.tr (by decide) (Eqo.refl fwM_X9_step M0_j39)⟩
      · obtain ⟨I0_6, e_I0_6, h⟩ := wb_v h
        have f_I0_6 := Eqo.eq e_I0_6 (Eqo.u (by decide) f_I0_3)
        obtain ⟨I0_7, e_I0_7, h⟩ := wb_v h
        have f_I0_7 := Eqo.eq e_I0_7 (Eqo.u (by decide) f_I0_6)
        have a3 := fr_fX9_step_L150 _ _ _ _ h
        exact ⟨a3.1.tr (by decide) f_I0_7, a3.2.tr (by decide) (Eqo.refl fwM_X9_step M0_j39)⟩
    · obtain ⟨I0_11, e_I0_11, h⟩ := wb_v h
      have f_I0_11 := Eqo.eq e_I0_11 (Eqo.u (by decide) f_I0_3)
      have a4 := fr_fX9_step_L86 _ _ _ _ h
      exact ⟨a4.1.tr (by decide) f_I0_11, a4.2.tr (by decide) (Eqo.refl fwM_X9_step M0_j39)⟩
  · obtain ⟨I0_14, e_I0_14, h⟩ := wb_v h
    have f_I0_14 := Eqo.eq e_I0_14 (Eqo.u (by decide) f_I0_3)
    have h := Option.some.inj h
    subst h
    exact ⟨f_I0_14, (Eqo.refl fwM_X9_step M0_j39)⟩
theorem fr_fX9_step_L0 {N : Nat} : ∀ fu I0_l0 M0_l0 R, fX9_step_L0 N fu I0_l0 M0_l0 = some R → Eqo fwI_X9_step R.1 I0_l0 ∧ Eqo fwM_X9_step R.2 M0_l0 := by
  intro fu
  induction fu with
  | zero => intro I0_l0 M0_l0 R h; cases (show none = some R from h)
  | succ fu ih =>
    intro I0_l0 M0_l0 R h
    rw [fX9_step_L0.eq_2] at h
    rcases fr_i h with h | h
    · have a1 := fr_fX9_step_J39 h
      exact ⟨a1.1.tr (by decide) (Eqo.refl fwI_X9_step I0_l0), a1.2.tr (by decide) (Eqo.refl fwM_X9_step M0_l0)⟩
    · obtain ⟨-, h⟩ := wb_n h
      obtain ⟨r15, -, h⟩ := wb_b h
      rcases fr_i h with h | h
      · have a2 := fr_fX9_step_J39 h
        exact ⟨a2.1.tr (by decide) (Eqo.refl fwI_X9_step I0_l0), a2.2.tr (by decide) (Eqo.refl fwM_X9_step M0_l0)⟩
      · obtain ⟨I0_16, e_I0_16, h⟩ := wb_v h
        have f_I0_16 := Eqo.eq e_I0_16 (Eqo.u (by decide) (Eqo.refl fwI_X9_step I0_l0))
        have a3 := ih _ _ _ h
        exact ⟨a3.1.tr (by decide) f_I0_16, a3.2.tr (by decide) (Eqo.refl fwM_X9_step M0_l0)⟩
theorem fr_fX9_step {N : Nat} {I0 : Nat → Int32} {M0 : Nat → Nat → Int32} {R} (h : fX9_step N I0 M0 = some R) : Eqo fwI_X9_step R.1 I0 ∧ Eqo fwM_X9_step R.2 M0 := by
  unfold fX9_step at h
  have a1 := fr_fX9_step_L0 _ _ _ _ h
  exact ⟨a1.1.tr (by decide) (Eqo.refl fwI_X9_step I0), a1.2.tr (by decide) (Eqo.refl fwM_X9_step M0)⟩
abbrev fwI_X9_refuse : List Nat := [7, 8]
abbrev fwM_X9_refuse : List Nat := []
theorem fr_fX9_refuse {N : Nat} {I0 : Nat → Int32} {M0 : Nat → Nat → Int32} {x1 : Int32} {R} (h : fX9_refuse N I0 M0 x1 = some R) : Eqo fwI_X9_refuse R.2.1 I0 ∧ Eqo fwM_X9_refuse R.2.2 M0 := by
  unfold fX9_refuse at h
  obtain ⟨I0_1, e_I0_1, h⟩ := wb_v h
  have f_I0_1 := Eqo.eq e_I0_1 (Eqo.u (by decide) (Eqo.refl fwI_X9_refuse I0))
  obtain ⟨I0_2, e_I0_2, h⟩ := wb_v h
  have f_I0_2 := Eqo.eq e_I0_2 (Eqo.u (by decide) f_I0_1)
  have h := Option.some.inj h
  subst h
  exact ⟨f_I0_2, (Eqo.refl fwM_X9_refuse M0)⟩
abbrev fwI_X1_isNew : List Nat := [2, 3, 4, 5, 7, 8]
abbrev fwM_X1_isNew : List Nat := []
theorem fr_fX1_isNew {N : Nat} {I0 : Nat → Int32} {M0 : Nat → Nat → Int32} {I1 : Nat → Int32} {M1 : Nat → Nat → Int32} {x2 : Int32} {R} (h : fX1_isNew N I0 M0 I1 M1 x2 = some R) : Eqo fwI_X1_isNew R.2.1 I1 ∧ Eqo fwM_X1_isNew R.2.2 M1 := by
  unfold fX1_isNew at h
  obtain ⟨-, h⟩ := wb_n h
  rcases fr_i h with h | h
  · obtain ⟨r1, e_r1, h⟩ := wb_b h
    have a1 := fr_fX9_step e_r1
    have fI_r1 := a1.1.tr (W := fwI_X1_isNew) (by decide) (Eqo.refl fwI_X1_isNew I1)
    have fM_r1 := a1.2.tr (W := fwM_X1_isNew) (by decide) (Eqo.refl fwM_X1_isNew M1)
    have h := Option.some.inj h
    subst h
    exact ⟨fI_r1, fM_r1⟩
  · obtain ⟨r2, e_r2, h⟩ := wb_b h
    have a2 := fr_fX9_refuse e_r2
    have fI_r2 := a2.1.tr (W := fwI_X1_isNew) (by decide) (Eqo.refl fwI_X1_isNew I1)
    have fM_r2 := a2.2.tr (W := fwM_X1_isNew) (by decide) (Eqo.refl fwM_X1_isNew M1)
    rcases fr_i h with h | h
    · have h := Option.some.inj h
      subst h
      exact ⟨fI_r2, fM_r2⟩
    · cases h
abbrev fwI_X9_holdsNumber : List Nat := [6, 7, 8]
abbrev fwM_X9_holdsNumber : List Nat := []
theorem fr_fX9_holdsNumber {N : Nat} {I0 : Nat → Int32} {M0 : Nat → Nat → Int32} {x1 : Int32} {x2 : Int32} {R} (h : fX9_holdsNumber N I0 M0 x1 x2 = some R) : Eqo fwI_X9_holdsNumber R.2.1 I0 ∧ Eqo fwM_X9_holdsNumber R.2.2 M0 := by
  unfold fX9_holdsNumber at h
  rcases fr_i h with h | h
  · rcases fr_i h with h | h
    · obtain ⟨r1, e_r1, h⟩ := wb_b h
      have a1 := fr_fX9_refuse e_r1
      have fI_r1 := a1.1.tr (W := fwI_X9_holdsNumber) (by decide) (Eqo.refl fwI_X9_holdsNumber I0)
      have fM_r1 := a1.2.tr (W := fwM_X9_holdsNumber) (by decide) (Eqo.refl fwM_X9_holdsNumber M0)
      rcases fr_i h with h | h
      · have h := Option.some.inj h
        subst h
        exact ⟨fI_r1, fM_r1⟩
      · cases h
    · rcases fr_i h with h | h
      · obtain ⟨r2, e_r2, h⟩ := wb_b h
        have a2 := fr_fX9_refuse e_r2
        have fI_r2 := a2.1.tr (W := fwI_X9_holdsNumber) (by decide) (Eqo.refl fwI_X9_holdsNumber I0)
        have fM_r2 := a2.2.tr (W := fwM_X9_holdsNumber) (by decide) (Eqo.refl fwM_X9_holdsNumber M0)
        rcases fr_i h with h | h
        · have h := Option.some.inj h
          subst h
          exact ⟨fI_r2, fM_r2⟩
        · cases h
      · rcases fr_i h with h | h
        · obtain ⟨I0_3, e_I0_3, h⟩ := wb_v h
          have f_I0_3 := Eqo.eq e_I0_3 (Eqo.u (by decide) (Eqo.refl fwI_X9_holdsNumber I0))
          have h := Option.some.inj h
          subst h
          exact ⟨f_I0_3, (Eqo.refl fwM_X9_holdsNumber M0)⟩
        · obtain ⟨r4, e_r4, h⟩ := wb_b h
          have a3 := fr_fX9_refuse e_r4
          have fI_r4 := a3.1.tr (W := fwI_X9_holdsNumber) (by decide) (Eqo.refl fwI_X9_holdsNumber I0)
          have fM_r4 := a3.2.tr (W := fwM_X9_holdsNumber) (by decide) (Eqo.refl fwM_X9_holdsNumber M0)
          rcases fr_i h with h | h
          · have h := Option.some.inj h
            subst h
            exact ⟨fI_r4, fM_r4⟩
          · cases h
  · obtain ⟨r5, e_r5, h⟩ := wb_b h
    have a4 := fr_fX9_refuse e_r5
    have fI_r5 := a4.1.tr (W := fwI_X9_holdsNumber) (by decide) (Eqo.refl fwI_X9_holdsNumber I0)
    have fM_r5 := a4.2.tr (W := fwM_X9_holdsNumber) (by decide) (Eqo.refl fwM_X9_holdsNumber M0)
    rcases fr_i h with h | h
    · have h := Option.some.inj h
      subst h
      exact ⟨fI_r5, fM_r5⟩
    · cases h
abbrev fwI_X9_takeNumber : List Nat := [2, 3, 4, 5, 6, 7, 8]
abbrev fwM_X9_takeNumber : List Nat := []
theorem fr_fX9_takeNumber {N : Nat} {I0 : Nat → Int32} {M0 : Nat → Nat → Int32} {x1 : Int32} {x2 : Int32} {R} (h : fX9_takeNumber N I0 M0 x1 x2 = some R) : Eqo fwI_X9_takeNumber R.2.1 I0 ∧ Eqo fwM_X9_takeNumber R.2.2 M0 := by
  unfold fX9_takeNumber at h
  obtain ⟨r1, e_r1, h⟩ := wb_b h
  have a1 := fr_fX9_holdsNumber e_r1
  have fI_r1 := a1.1.tr (W := fwI_X9_takeNumber) (by decide) (Eqo.refl fwI_X9_takeNumber I0)
  have fM_r1 := a1.2.tr (W := fwM_X9_takeNumber) (by decide) (Eqo.refl fwM_X9_takeNumber M0)
  rcases fr_i h with h | h
  · have h := Option.some.inj h
    subst h
    exact ⟨fI_r1, fM_r1⟩
  · obtain ⟨r2, e_r2, h⟩ := wb_b h
    have a2 := fr_fX9_step e_r2
    have fI_r2 := a2.1.tr (W := fwI_X9_takeNumber) (by decide) fI_r1
    have fM_r2 := a2.2.tr (W := fwM_X9_takeNumber) (by decide) fM_r1
    have h := Option.some.inj h
    subst h
    exact ⟨fI_r2, fM_r2⟩
abbrev fwI_X9_takeStop : List Nat := [2, 3, 4, 5, 7, 8]
abbrev fwM_X9_takeStop : List Nat := []
theorem fr_fX9_takeStop {N : Nat} {I0 : Nat → Int32} {M0 : Nat → Nat → Int32} {R} (h : fX9_takeStop N I0 M0 = some R) : Eqo fwI_X9_takeStop R.2.1 I0 ∧ Eqo fwM_X9_takeStop R.2.2 M0 := by
  unfold fX9_takeStop at h
  rcases fr_i h with h | h
  · obtain ⟨r1, e_r1, h⟩ := wb_b h
    have a1 := fr_fX9_step e_r1
    have fI_r1 := a1.1.tr (W := fwI_X9_takeStop) (by decide) (Eqo.refl fwI_X9_takeStop I0)
    have fM_r1 := a1.2.tr (W := fwM_X9_takeStop) (by decide) (Eqo.refl fwM_X9_takeStop M0)
    have h := Option.some.inj h
    subst h
    exact ⟨fI_r1, fM_r1⟩
  · obtain ⟨r2, e_r2, h⟩ := wb_b h
    have a2 := fr_fX9_refuse e_r2
    have fI_r2 := a2.1.tr (W := fwI_X9_takeStop) (by decide) (Eqo.refl fwI_X9_takeStop I0)
    have fM_r2 := a2.2.tr (W := fwM_X9_takeStop) (by decide) (Eqo.refl fwM_X9_takeStop M0)
    rcases fr_i h with h | h
    · have h := Option.some.inj h
      subst h
      exact ⟨fI_r2, fM_r2⟩
    · cases h
abbrev fwI_X1_readDegree : List Nat := [2, 3, 4, 5, 6, 7, 8]
abbrev fwM_X1_readDegree : List Nat := []
theorem fr_fX1_readDegree {N : Nat} {I0 : Nat → Int32} {M0 : Nat → Nat → Int32} {I1 : Nat → Int32} {M1 : Nat → Nat → Int32} {x2 : Int32} {R} (h : fX1_readDegree N I0 M0 I1 M1 x2 = some R) : Eqo fwI_X1_readDegree R.2.2.2.1 I1 ∧ Eqo fwM_X1_readDegree R.2.2.2.2 M1 := by
  unfold fX1_readDegree at h
  obtain ⟨r1, e_r1, h⟩ := wb_b h
  have a1 := fr_fX1_isNew e_r1
  have fI_r1 := a1.1.tr (W := fwI_X1_readDegree) (by decide) (Eqo.refl fwI_X1_readDegree I1)
  have fM_r1 := a1.2.tr (W := fwM_X1_readDegree) (by decide) (Eqo.refl fwM_X1_readDegree M1)
  rcases fr_i h with h | h
  · have h := Option.some.inj h
    subst h
    exact ⟨fI_r1, fM_r1⟩
  · obtain ⟨r2, e_r2, h⟩ := wb_b h
    have a2 := fr_fX9_takeNumber e_r2
    have fI_r2 := a2.1.tr (W := fwI_X1_readDegree) (by decide) fI_r1
    have fM_r2 := a2.2.tr (W := fwM_X1_readDegree) (by decide) fM_r1
    rcases fr_i h with h | h
    · have h := Option.some.inj h
      subst h
      exact ⟨fI_r2, fM_r2⟩
    · obtain ⟨v3, -, h⟩ := wb_v h
      obtain ⟨r4, e_r4, h⟩ := wb_b h
      have a3 := fr_fX9_takeNumber e_r4
      have fI_r4 := a3.1.tr (W := fwI_X1_readDegree) (by decide) fI_r2
      have fM_r4 := a3.2.tr (W := fwM_X1_readDegree) (by decide) fM_r2
      rcases fr_i h with h | h
      · have h := Option.some.inj h
        subst h
        exact ⟨fI_r4, fM_r4⟩
      · obtain ⟨-, h⟩ := wb_n h
        obtain ⟨M0_5, -, h⟩ := wb_v h
        obtain ⟨r6, e_r6, h⟩ := wb_b h
        have a4 := fr_fX9_takeStop e_r6
        have fI_r6 := a4.1.tr (W := fwI_X1_readDegree) (by decide) fI_r4
        have fM_r6 := a4.2.tr (W := fwM_X1_readDegree) (by decide) fM_r4
        rcases fr_i h with h | h
        · have h := Option.some.inj h
          subst h
          exact ⟨fI_r6, fM_r6⟩
        · cases h
abbrev fwI_X1_readDate : List Nat := [2, 3, 4, 5, 6, 7, 8]
abbrev fwM_X1_readDate : List Nat := []
theorem fr_fX1_readDate_J41 {N : Nat} {I0_j41 : Nat → Int32} {M0_j41 : Nat → Nat → Int32} {I1_j41 : Nat → Int32} {M1_j41 : Nat → Nat → Int32} {y41_2 : Int32} {z41_0 : Int32} {z41_1 : Int32} {R} (h : fX1_readDate_J41 N I0_j41 M0_j41 I1_j41 M1_j41 y41_2 z41_0 z41_1 = some R) : Eqo fwI_X1_readDate R.2.2.2.1 I1_j41 ∧ Eqo fwM_X1_readDate R.2.2.2.2 M1_j41 := by
  unfold fX1_readDate_J41 at h
  obtain ⟨r1, e_r1, h⟩ := wb_b h
  have a1 := fr_fX9_takeNumber e_r1
  have fI_r1 := a1.1.tr (W := fwI_X1_readDate) (by decide) (Eqo.refl fwI_X1_readDate I1_j41)
  have fM_r1 := a1.2.tr (W := fwM_X1_readDate) (by decide) (Eqo.refl fwM_X1_readDate M1_j41)
  rcases fr_i h with h | h
  · have h := Option.some.inj h
    subst h
    exact ⟨fI_r1, fM_r1⟩
  · obtain ⟨-, h⟩ := wb_n h
    obtain ⟨M0_2, -, h⟩ := wb_v h
    obtain ⟨r3, e_r3, h⟩ := wb_b h
    have a2 := fr_fX9_takeStop e_r3
    have fI_r3 := a2.1.tr (W := fwI_X1_readDate) (by decide) fI_r1
    have fM_r3 := a2.2.tr (W := fwM_X1_readDate) (by decide) fM_r1
    rcases fr_i h with h | h
    · have h := Option.some.inj h
      subst h
      exact ⟨fI_r3, fM_r3⟩
    · cases h
theorem fr_fX1_readDate {N : Nat} {I0 : Nat → Int32} {M0 : Nat → Nat → Int32} {I1 : Nat → Int32} {M1 : Nat → Nat → Int32} {R} (h : fX1_readDate N I0 M0 I1 M1 = some R) : Eqo fwI_X1_readDate R.2.2.2.1 I1 ∧ Eqo fwM_X1_readDate R.2.2.2.2 M1 := by
  unfold fX1_readDate at h
  obtain ⟨r4, e_r4, h⟩ := wb_b h
  have a1 := fr_fX1_isNew e_r4
  have fI_r4 := a1.1.tr (W := fwI_X1_readDate) (by decide) (Eqo.refl fwI_X1_readDate I1)
  have fM_r4 := a1.2.tr (W := fwM_X1_readDate) (by decide) (Eqo.refl fwM_X1_readDate M1)
  rcases fr_i h with h | h
  · have h := Option.some.inj h
    subst h
    exact ⟨fI_r4, fM_r4⟩
  · obtain ⟨r5, e_r5, h⟩ := wb_b h
    have a2 := fr_fX9_takeNumber e_r5
    have fI_r5 := a2.1.tr (W := fwI_X1_readDate) (by decide) fI_r4
    have fM_r5 := a2.2.tr (W := fwM_X1_readDate) (by decide) fM_r4
    rcases fr_i h with h | h
    · have h := Option.some.inj h
      subst h
      exact ⟨fI_r5, fM_r5⟩
    · obtain ⟨v6, -, h⟩ := wb_v h
      rcases fr_i h with h | h
      · have a3 := fr_fX1_readDate_J41 h
        exact ⟨a3.1.tr (by decide) fI_r5, a3.2.tr (by decide) fM_r5⟩
      · have a4 := fr_fX1_readDate_J41 h
        exact ⟨a4.1.tr (by decide) fI_r5, a4.2.tr (by decide) fM_r5⟩
abbrev fwI_X1_readEntry : List Nat := [2, 3, 4, 5, 6, 7, 8]
abbrev fwM_X1_readEntry : List Nat := []
theorem fr_fX1_readEntry {N : Nat} {I0 : Nat → Int32} {M0 : Nat → Nat → Int32} {I1 : Nat → Int32} {M1 : Nat → Nat → Int32} {R} (h : fX1_readEntry N I0 M0 I1 M1 = some R) : Eqo fwI_X1_readEntry R.2.2.2.1 I1 ∧ Eqo fwM_X1_readEntry R.2.2.2.2 M1 := by
  unfold fX1_readEntry at h
  obtain ⟨r1, -, h⟩ := wb_b h
  rcases fr_i h with h | h
  · obtain ⟨r2, -, h⟩ := wb_b h
    rcases fr_i h with h | h
    · obtain ⟨r3, -, h⟩ := wb_b h
      rcases fr_i h with h | h
      · obtain ⟨r5, e_r5, h⟩ := wb_b h
        have a1 := fr_fX9_refuse e_r5
        have fI_r5 := a1.1.tr (W := fwI_X1_readEntry) (by decide) (Eqo.refl fwI_X1_readEntry I1)
        have fM_r5 := a1.2.tr (W := fwM_X1_readEntry) (by decide) (Eqo.refl fwM_X1_readEntry M1)
        rcases fr_i h with h | h
        · have h := Option.some.inj h
          subst h
          exact ⟨fI_r5, fM_r5⟩
        · cases h
      · obtain ⟨r4, e_r4, h⟩ := wb_b h
        have a2 := fr_fX1_readDegree e_r4
        have fI_r4 := a2.1.tr (W := fwI_X1_readEntry) (by decide) (Eqo.refl fwI_X1_readEntry I1)
        have fM_r4 := a2.2.tr (W := fwM_X1_readEntry) (by decide) (Eqo.refl fwM_X1_readEntry M1)
        rcases fr_i h with h | h
        · have h := Option.some.inj h
          subst h
          exact ⟨fI_r4, fM_r4⟩
        · cases h
    · obtain ⟨r6, e_r6, h⟩ := wb_b h
      have a3 := fr_fX1_readDate e_r6
      have fI_r6 := a3.1.tr (W := fwI_X1_readEntry) (by decide) (Eqo.refl fwI_X1_readEntry I1)
      have fM_r6 := a3.2.tr (W := fwM_X1_readEntry) (by decide) (Eqo.refl fwM_X1_readEntry M1)
      rcases fr_i h with h | h
      · have h := Option.some.inj h
        subst h
        exact ⟨fI_r6, fM_r6⟩
      · cases h
  · obtain ⟨r7, e_r7, h⟩ := wb_b h
    have a4 := fr_fX9_step e_r7
    have fI_r7 := a4.1.tr (W := fwI_X1_readEntry) (by decide) (Eqo.refl fwI_X1_readEntry I1)
    have fM_r7 := a4.2.tr (W := fwM_X1_readEntry) (by decide) (Eqo.refl fwM_X1_readEntry M1)
    obtain ⟨r8, e_r8, h⟩ := wb_b h
    have a5 := fr_fX9_holdsNumber e_r8
    have fI_r8 := a5.1.tr (W := fwI_X1_readEntry) (by decide) fI_r7
    have fM_r8 := a5.2.tr (W := fwM_X1_readEntry) (by decide) fM_r7
    rcases fr_i h with h | h
    · have h := Option.some.inj h
      subst h
      exact ⟨fI_r8, fM_r8⟩
    · obtain ⟨r9b, e_r9b, h⟩ := wb_b h
      have a6 := fr_fX1_readDegree e_r9b
      have fI_r9b := a6.1.tr (W := fwI_X1_readEntry) (by decide) fI_r8
      have fM_r9b := a6.2.tr (W := fwM_X1_readEntry) (by decide) fM_r8
      rcases fr_i h with h | h
      · have h := Option.some.inj h
        subst h
        exact ⟨fI_r9b, fM_r9b⟩
      · have h := Option.some.inj h
        subst h
        exact ⟨fI_r9b, fM_r9b⟩
abbrev fwI_X1_readEntries : List Nat := [2, 3, 4, 5, 6, 7, 8]
abbrev fwM_X1_readEntries : List Nat := []
theorem fr_fX1_readEntries_L10 {N : Nat} : ∀ fu I0_l10 M0_l10 I1_l10 M1_l10 y10_2 R, fX1_readEntries_L10 N fu I0_l10 M0_l10 I1_l10 M1_l10 y10_2 = some R → Eqo fwI_X1_readEntries R.2.2.2.1 I1_l10 ∧ Eqo fwM_X1_readEntries R.2.2.2.2 M1_l10 := by
  intro fu
  induction fu with
  | zero => intro I0_l10 M0_l10 I1_l10 M1_l10 y10_2 R h; cases (show none = some R from h)
  | succ fu ih =>
    intro I0_l10 M0_l10 I1_l10 M1_l10 y10_2 R h
    rw [fX1_readEntries_L10.eq_2] at h
    rcases fr_i h with h | h
    · have h := Option.some.inj h
      subst h
      exact ⟨(Eqo.refl fwI_X1_readEntries I1_l10), (Eqo.refl fwM_X1_readEntries M1_l10)⟩
    · obtain ⟨r3, -, h⟩ := wb_b h
      rcases fr_i h with h | h
      · obtain ⟨r4, e_r4, h⟩ := wb_b h
        have a1 := fr_fX1_readEntry e_r4
        have fI_r4 := a1.1.tr (W := fwI_X1_readEntries) (by decide) (Eqo.refl fwI_X1_readEntries I1_l10)
        have fM_r4 := a1.2.tr (W := fwM_X1_readEntries) (by decide) (Eqo.refl fwM_X1_readEntries M1_l10)
        rcases fr_i h with h | h
        · have h := Option.some.inj h
          subst h
          exact ⟨fI_r4, fM_r4⟩
        · obtain ⟨v5, -, h⟩ := wb_v h
          have a2 := ih _ _ _ _ _ _ h
          exact ⟨a2.1.tr (by decide) fI_r4, a2.2.tr (by decide) fM_r4⟩
      · have h := Option.some.inj h
        subst h
        exact ⟨(Eqo.refl fwI_X1_readEntries I1_l10), (Eqo.refl fwM_X1_readEntries M1_l10)⟩
theorem fr_fX1_readEntries {N : Nat} {I0 : Nat → Int32} {M0 : Nat → Nat → Int32} {I1 : Nat → Int32} {M1 : Nat → Nat → Int32} {R} (h : fX1_readEntries N I0 M0 I1 M1 = some R) : Eqo fwI_X1_readEntries R.2.2.2.1 I1 ∧ Eqo fwM_X1_readEntries R.2.2.2.2 M1 := by
  unfold fX1_readEntries at h
  obtain ⟨r1, -, h⟩ := wb_b h
  obtain ⟨M0_2, -, h⟩ := wb_v h
  have a1 := fr_fX1_readEntries_L10 _ _ _ _ _ _ _ h
  exact ⟨a1.1.tr (by decide) (Eqo.refl fwI_X1_readEntries I1), a1.2.tr (by decide) (Eqo.refl fwM_X1_readEntries M1)⟩
abbrev fwI_X2_readRising : List Nat := [2, 3, 4, 5, 6, 7, 8]
abbrev fwM_X2_readRising : List Nat := []
theorem fr_fX2_readRising_J58 {N : Nat} {g4 : (Nat → Int32) → (Nat → Nat → Int32) → (Nat → Int32) → (Nat → Nat → Int32) → Int32 → Int32 → Option (Int32 × (Nat → Int32) × (Nat → Nat → Int32) × (Nat → Int32) × (Nat → Nat → Int32))} {I0_j58 : Nat → Int32} {M0_j58 : Nat → Nat → Int32} {I1_j58 : Nat → Int32} {M1_j58 : Nat → Nat → Int32} {y58_2 : Int32} {y58_3 : Int32} {z58_0 : Int32} {z58_1 : Int32} (hg4 : ∀ q0 q1 q2 q3 q4 q5 R, g4 q0 q1 q2 q3 q4 q5 = some R → Eqo fwI_X2_readRising R.2.2.2.1 q2 ∧ Eqo fwM_X2_readRising R.2.2.2.2 q3) {R} (h : fX2_readRising_J58 N g4 I0_j58 M0_j58 I1_j58 M1_j58 y58_2 y58_3 z58_0 z58_1 = some R) : Eqo fwI_X2_readRising R.2.2.2.1 I1_j58 ∧ Eqo fwM_X2_readRising R.2.2.2.2 M1_j58 := by
  unfold fX2_readRising_J58 at h
  obtain ⟨r1, e_r1, h⟩ := wb_b h
  have a1 := fr_fX9_takeNumber e_r1
  have fI_r1 := a1.1.tr (W := fwI_X2_readRising) (by decide) (Eqo.refl fwI_X2_readRising I1_j58)
  have fM_r1 := a1.2.tr (W := fwM_X2_readRising) (by decide) (Eqo.refl fwM_X2_readRising M1_j58)
  rcases fr_i h with h | h
  · have h := Option.some.inj h
    subst h
    exact ⟨fI_r1, fM_r1⟩
  · obtain ⟨v2, -, h⟩ := wb_v h
    obtain ⟨-, h⟩ := wb_n h
    obtain ⟨M0_3, -, h⟩ := wb_v h
    obtain ⟨v4, -, h⟩ := wb_v h
    have a2 := hg4 _ _ _ _ _ _ _ h
    exact ⟨a2.1.tr (by decide) fI_r1, a2.2.tr (by decide) fM_r1⟩
theorem fr_fX2_readRising_J46 {N : Nat} {g4 : (Nat → Int32) → (Nat → Nat → Int32) → (Nat → Int32) → (Nat → Nat → Int32) → Int32 → Int32 → Option (Int32 × (Nat → Int32) × (Nat → Nat → Int32) × (Nat → Int32) × (Nat → Nat → Int32))} {I0_j46 : Nat → Int32} {M0_j46 : Nat → Nat → Int32} {I1_j46 : Nat → Int32} {M1_j46 : Nat → Nat → Int32} {y46_2 : Int32} {y46_3 : Int32} {y46_4 : Int32} {y46_5 : Int32} {z46_0 : Int32} (hg4 : ∀ q0 q1 q2 q3 q4 q5 R, g4 q0 q1 q2 q3 q4 q5 = some R → Eqo fwI_X2_readRising R.2.2.2.1 q2 ∧ Eqo fwM_X2_readRising R.2.2.2.2 q3) {R} (h : fX2_readRising_J46 N g4 I0_j46 M0_j46 I1_j46 M1_j46 y46_2 y46_3 y46_4 y46_5 z46_0 = some R) : Eqo fwI_X2_readRising R.2.2.2.1 I1_j46 ∧ Eqo fwM_X2_readRising R.2.2.2.2 M1_j46 := by
  unfold fX2_readRising_J46 at h
  rcases fr_i h with h | h
  · have a1 := fr_fX2_readRising_J58 hg4 h
    exact ⟨a1.1.tr (by decide) (Eqo.refl fwI_X2_readRising I1_j46), a1.2.tr (by decide) (Eqo.refl fwM_X2_readRising M1_j46)⟩
  · have a2 := fr_fX2_readRising_J58 hg4 h
    exact ⟨a2.1.tr (by decide) (Eqo.refl fwI_X2_readRising I1_j46), a2.2.tr (by decide) (Eqo.refl fwM_X2_readRising M1_j46)⟩
theorem fr_fX2_readRising_J28 {N : Nat} {g4 : (Nat → Int32) → (Nat → Nat → Int32) → (Nat → Int32) → (Nat → Nat → Int32) → Int32 → Int32 → Option (Int32 × (Nat → Int32) × (Nat → Nat → Int32) × (Nat → Int32) × (Nat → Nat → Int32))} {I0_j28 : Nat → Int32} {M0_j28 : Nat → Nat → Int32} {I1_j28 : Nat → Int32} {M1_j28 : Nat → Nat → Int32} {y28_2 : Int32} {y28_3 : Int32} {y28_4 : Int32} {z28_0 : Int32} (hg4 : ∀ q0 q1 q2 q3 q4 q5 R, g4 q0 q1 q2 q3 q4 q5 = some R → Eqo fwI_X2_readRising R.2.2.2.1 q2 ∧ Eqo fwM_X2_readRising R.2.2.2.2 q3) {R} (h : fX2_readRising_J28 N g4 I0_j28 M0_j28 I1_j28 M1_j28 y28_2 y28_3 y28_4 z28_0 = some R) : Eqo fwI_X2_readRising R.2.2.2.1 I1_j28 ∧ Eqo fwM_X2_readRising R.2.2.2.2 M1_j28 := by
  unfold fX2_readRising_J28 at h
  rcases fr_i h with h | h
  · have a1 := fr_fX2_readRising_J46 hg4 h
    exact ⟨a1.1.tr (by decide) (Eqo.refl fwI_X2_readRising I1_j28), a1.2.tr (by decide) (Eqo.refl fwM_X2_readRising M1_j28)⟩
  · have a2 := fr_fX2_readRising_J46 hg4 h
    exact ⟨a2.1.tr (by decide) (Eqo.refl fwI_X2_readRising I1_j28), a2.2.tr (by decide) (Eqo.refl fwM_X2_readRising M1_j28)⟩
theorem fr_fX2_readRising_L4 {N : Nat} : ∀ fu I0_l4 M0_l4 I1_l4 M1_l4 y4_2 y4_3 R, fX2_readRising_L4 N fu I0_l4 M0_l4 I1_l4 M1_l4 y4_2 y4_3 = some R → Eqo fwI_X2_readRising R.2.2.2.1 I1_l4 ∧ Eqo fwM_X2_readRising R.2.2.2.2 M1_l4 := by
  intro fu
  induction fu with
  | zero => intro I0_l4 M0_l4 I1_l4 M1_l4 y4_2 y4_3 R h; cases (show none = some R from h)
  | succ fu ih =>
    intro I0_l4 M0_l4 I1_l4 M1_l4 y4_2 y4_3 R h
    rw [fX2_readRising_L4.eq_2] at h
    rcases fr_i h with h | h
    · have h := Option.some.inj h
      subst h
      exact ⟨(Eqo.refl fwI_X2_readRising I1_l4), (Eqo.refl fwM_X2_readRising M1_l4)⟩
    · obtain ⟨v5, -, h⟩ := wb_v h
      rcases fr_i h with h | h
      · have c103 : ∀ q0 q1 q2 q3 q4 q5 R, (fX2_readRising_L4 N fu q0 q1 q2 q3 q4 q5) = some R → Eqo fwI_X2_readRising R.2.2.2.1 q2 ∧ Eqo fwM_X2_readRising R.2.2.2.2 q3 := by
            intro q0 q1 q2 q3 q4 q5 R h
            have a102 := ih _ _ _ _ _ _ _ h
            exact ⟨a102.1.tr (by decide) (Eqo.refl fwI_X2_readRising q2), a102.2.tr (by decide) (Eqo.refl fwM_X2_readRising q3)⟩
        have a1 := fr_fX2_readRising_J28 c103 h
        exact ⟨a1.1.tr (by decide) (Eqo.refl fwI_X2_readRising I1_l4), a1.2.tr (by decide) (Eqo.refl fwM_X2_readRising M1_l4)⟩
      · have c206 : ∀ q0 q1 q2 q3 q4 q5 R, (fX2_readRising_L4 N fu q0 q1 q2 q3 q4 q5) = some R → Eqo fwI_X2_readRising R.2.2.2.1 q2 ∧ Eqo fwM_X2_readRising R.2.2.2.2 q3 := by
            intro q0 q1 q2 q3 q4 q5 R h
            have a205 := ih _ _ _ _ _ _ _ h
            exact ⟨a205.1.tr (by decide) (Eqo.refl fwI_X2_readRising q2), a205.2.tr (by decide) (Eqo.refl fwM_X2_readRising q3)⟩
        have a104 := fr_fX2_readRising_J28 c206 h
        exact ⟨a104.1.tr (by decide) (Eqo.refl fwI_X2_readRising I1_l4), a104.2.tr (by decide) (Eqo.refl fwM_X2_readRising M1_l4)⟩
theorem fr_fX2_readRising {N : Nat} {I0 : Nat → Int32} {M0 : Nat → Nat → Int32} {I1 : Nat → Int32} {M1 : Nat → Nat → Int32} {R} (h : fX2_readRising N I0 M0 I1 M1 = some R) : Eqo fwI_X2_readRising R.2.2.2.1 I1 ∧ Eqo fwM_X2_readRising R.2.2.2.2 M1 := by
  unfold fX2_readRising at h
  have a1 := fr_fX2_readRising_L4 _ _ _ _ _ _ _ _ h
  exact ⟨a1.1.tr (by decide) (Eqo.refl fwI_X2_readRising I1), a1.2.tr (by decide) (Eqo.refl fwM_X2_readRising M1)⟩
abbrev fwI_X2_readClimate : List Nat := [2, 3, 4, 5, 6, 7, 8]
abbrev fwM_X2_readClimate : List Nat := []
theorem fr_fX2_readClimate {N : Nat} {I0 : Nat → Int32} {M0 : Nat → Nat → Int32} {I1 : Nat → Int32} {M1 : Nat → Nat → Int32} {R} (h : fX2_readClimate N I0 M0 I1 M1 = some R) : Eqo fwI_X2_readClimate R.2.2.2.1 I1 ∧ Eqo fwM_X2_readClimate R.2.2.2.2 M1 := by
  unfold fX2_readClimate at h
  rcases fr_i h with h | h
  · obtain ⟨r1, e_r1, h⟩ := wb_b h
    have a1 := fr_fX9_step e_r1
    have fI_r1 := a1.1.tr (W := fwI_X2_readClimate) (by decide) (Eqo.refl fwI_X2_readClimate I1)
    have fM_r1 := a1.2.tr (W := fwM_X2_readClimate) (by decide) (Eqo.refl fwM_X2_readClimate M1)
    obtain ⟨r2, e_r2, h⟩ := wb_b h
    have a2 := fr_fX9_takeNumber e_r2
    have fI_r2 := a2.1.tr (W := fwI_X2_readClimate) (by decide) fI_r1
    have fM_r2 := a2.2.tr (W := fwM_X2_readClimate) (by decide) fM_r1
    rcases fr_i h with h | h
    · have h := Option.some.inj h
      subst h
      exact ⟨fI_r2, fM_r2⟩
    · obtain ⟨r3, e_r3, h⟩ := wb_b h
      have a3 := fr_fX2_readRising e_r3
      have fI_r3 := a3.1.tr (W := fwI_X2_readClimate) (by decide) fI_r2
      have fM_r3 := a3.2.tr (W := fwM_X2_readClimate) (by decide) fM_r2
      rcases fr_i h with h | h
      · have h := Option.some.inj h
        subst h
        exact ⟨fI_r3, fM_r3⟩
      · obtain ⟨I0_4, -, h⟩ := wb_v h
        obtain ⟨r5, e_r5, h⟩ := wb_b h
        have a4 := fr_fX9_takeStop e_r5
        have fI_r5 := a4.1.tr (W := fwI_X2_readClimate) (by decide) fI_r3
        have fM_r5 := a4.2.tr (W := fwM_X2_readClimate) (by decide) fM_r3
        rcases fr_i h with h | h
        · have h := Option.some.inj h
          subst h
          exact ⟨fI_r5, fM_r5⟩
        · cases h
  · obtain ⟨r6, e_r6, h⟩ := wb_b h
    have a5 := fr_fX9_refuse e_r6
    have fI_r6 := a5.1.tr (W := fwI_X2_readClimate) (by decide) (Eqo.refl fwI_X2_readClimate I1)
    have fM_r6 := a5.2.tr (W := fwM_X2_readClimate) (by decide) (Eqo.refl fwM_X2_readClimate M1)
    rcases fr_i h with h | h
    · have h := Option.some.inj h
      subst h
      exact ⟨fI_r6, fM_r6⟩
    · cases h
abbrev fwI_X9_takeWord : List Nat := [2, 3, 4, 5, 7, 8]
abbrev fwM_X9_takeWord : List Nat := []
theorem fr_fX9_takeWord {N : Nat} {I0 : Nat → Int32} {M0 : Nat → Nat → Int32} {w1 : Nat} {R} (h : fX9_takeWord N I0 M0 w1 = some R) : Eqo fwI_X9_takeWord R.2.1 I0 ∧ Eqo fwM_X9_takeWord R.2.2 M0 := by
  unfold fX9_takeWord at h
  obtain ⟨r1, -, h⟩ := wb_b h
  rcases fr_i h with h | h
  · obtain ⟨r3, e_r3, h⟩ := wb_b h
    have a1 := fr_fX9_refuse e_r3
    have fI_r3 := a1.1.tr (W := fwI_X9_takeWord) (by decide) (Eqo.refl fwI_X9_takeWord I0)
    have fM_r3 := a1.2.tr (W := fwM_X9_takeWord) (by decide) (Eqo.refl fwM_X9_takeWord M0)
    rcases fr_i h with h | h
    · have h := Option.some.inj h
      subst h
      exact ⟨fI_r3, fM_r3⟩
    · cases h
  · obtain ⟨r2, e_r2, h⟩ := wb_b h
    have a2 := fr_fX9_step e_r2
    have fI_r2 := a2.1.tr (W := fwI_X9_takeWord) (by decide) (Eqo.refl fwI_X9_takeWord I0)
    have fM_r2 := a2.2.tr (W := fwM_X9_takeWord) (by decide) (Eqo.refl fwM_X9_takeWord M0)
    have h := Option.some.inj h
    subst h
    exact ⟨fI_r2, fM_r2⟩
abbrev fwI_X4_readHand : List Nat := [2, 3, 4, 5, 6, 7, 8]
abbrev fwM_X4_readHand : List Nat := []
theorem fr_fX4_readHand {N : Nat} {I0 : Nat → Int32} {M0 : Nat → Nat → Int32} {I1 : Nat → Int32} {M1 : Nat → Nat → Int32} {R} (h : fX4_readHand N I0 M0 I1 M1 = some R) : Eqo fwI_X4_readHand R.2.2.2.1 I1 ∧ Eqo fwM_X4_readHand R.2.2.2.2 M1 := by
  unfold fX4_readHand at h
  rcases fr_i h with h | h
  · obtain ⟨r1, e_r1, h⟩ := wb_b h
    have a1 := fr_fX9_step e_r1
    have fI_r1 := a1.1.tr (W := fwI_X4_readHand) (by decide) (Eqo.refl fwI_X4_readHand I1)
    have fM_r1 := a1.2.tr (W := fwM_X4_readHand) (by decide) (Eqo.refl fwM_X4_readHand M1)
    obtain ⟨r2, e_r2, h⟩ := wb_b h
    have a2 := fr_fX9_takeNumber e_r2
    have fI_r2 := a2.1.tr (W := fwI_X4_readHand) (by decide) fI_r1
    have fM_r2 := a2.2.tr (W := fwM_X4_readHand) (by decide) fM_r1
    rcases fr_i h with h | h
    · have h := Option.some.inj h
      subst h
      exact ⟨fI_r2, fM_r2⟩
    · obtain ⟨v3, -, h⟩ := wb_v h
      obtain ⟨r4, e_r4, h⟩ := wb_b h
      have a3 := fr_fX9_takeWord e_r4
      have fI_r4 := a3.1.tr (W := fwI_X4_readHand) (by decide) fI_r2
      have fM_r4 := a3.2.tr (W := fwM_X4_readHand) (by decide) fM_r2
      rcases fr_i h with h | h
      · have h := Option.some.inj h
        subst h
        exact ⟨fI_r4, fM_r4⟩
      · obtain ⟨r5, e_r5, h⟩ := wb_b h
        have a4 := fr_fX9_takeNumber e_r5
        have fI_r5 := a4.1.tr (W := fwI_X4_readHand) (by decide) fI_r4
        have fM_r5 := a4.2.tr (W := fwM_X4_readHand) (by decide) fM_r4
        rcases fr_i h with h | h
        · have h := Option.some.inj h
          subst h
          exact ⟨fI_r5, fM_r5⟩
        · obtain ⟨-, h⟩ := wb_n h
          obtain ⟨-, h⟩ := wb_n h
          obtain ⟨M0_6, -, h⟩ := wb_v h
          obtain ⟨I0_7, -, h⟩ := wb_v h
          obtain ⟨r8, e_r8, h⟩ := wb_b h
          have a5 := fr_fX9_takeStop e_r8
          have fI_r8 := a5.1.tr (W := fwI_X4_readHand) (by decide) fI_r5
          have fM_r8 := a5.2.tr (W := fwM_X4_readHand) (by decide) fM_r5
          rcases fr_i h with h | h
          · have h := Option.some.inj h
            subst h
            exact ⟨fI_r8, fM_r8⟩
          · cases h
  · obtain ⟨r9b, e_r9b, h⟩ := wb_b h
    have a6 := fr_fX9_refuse e_r9b
    have fI_r9b := a6.1.tr (W := fwI_X4_readHand) (by decide) (Eqo.refl fwI_X4_readHand I1)
    have fM_r9b := a6.2.tr (W := fwM_X4_readHand) (by decide) (Eqo.refl fwM_X4_readHand M1)
    rcases fr_i h with h | h
    · have h := Option.some.inj h
      subst h
      exact ⟨fI_r9b, fM_r9b⟩
    · cases h
abbrev fwI_X5_readTable : List Nat := [2, 3, 4, 5, 6, 7, 8]
abbrev fwM_X5_readTable : List Nat := []
theorem fr_fX5_readTable {N : Nat} {I0 : Nat → Int32} {M0 : Nat → Nat → Int32} {I1 : Nat → Int32} {M1 : Nat → Nat → Int32} {x2 : Int32} {R} (h : fX5_readTable N I0 M0 I1 M1 x2 = some R) : Eqo fwI_X5_readTable R.2.2.2.1 I1 ∧ Eqo fwM_X5_readTable R.2.2.2.2 M1 := by
  unfold fX5_readTable at h
  obtain ⟨r1, e_r1, h⟩ := wb_b h
  have a1 := fr_fX9_takeWord e_r1
  have fI_r1 := a1.1.tr (W := fwI_X5_readTable) (by decide) (Eqo.refl fwI_X5_readTable I1)
  have fM_r1 := a1.2.tr (W := fwM_X5_readTable) (by decide) (Eqo.refl fwM_X5_readTable M1)
  rcases fr_i h with h | h
  · have h := Option.some.inj h
    subst h
    exact ⟨fI_r1, fM_r1⟩
  · obtain ⟨r2, e_r2, h⟩ := wb_b h
    have a2 := fr_fX9_takeNumber e_r2
    have fI_r2 := a2.1.tr (W := fwI_X5_readTable) (by decide) fI_r1
    have fM_r2 := a2.2.tr (W := fwM_X5_readTable) (by decide) fM_r1
    rcases fr_i h with h | h
    · have h := Option.some.inj h
      subst h
      exact ⟨fI_r2, fM_r2⟩
    · obtain ⟨-, h⟩ := wb_n h
      obtain ⟨M0_3, -, h⟩ := wb_v h
      obtain ⟨r4, e_r4, h⟩ := wb_b h
      have a3 := fr_fX9_takeWord e_r4
      have fI_r4 := a3.1.tr (W := fwI_X5_readTable) (by decide) fI_r2
      have fM_r4 := a3.2.tr (W := fwM_X5_readTable) (by decide) fM_r2
      rcases fr_i h with h | h
      · have h := Option.some.inj h
        subst h
        exact ⟨fI_r4, fM_r4⟩
      · obtain ⟨r5, e_r5, h⟩ := wb_b h
        have a4 := fr_fX9_takeNumber e_r5
        have fI_r5 := a4.1.tr (W := fwI_X5_readTable) (by decide) fI_r4
        have fM_r5 := a4.2.tr (W := fwM_X5_readTable) (by decide) fM_r4
        rcases fr_i h with h | h
        · have h := Option.some.inj h
          subst h
          exact ⟨fI_r5, fM_r5⟩
        · obtain ⟨-, h⟩ := wb_n h
          obtain ⟨M0_6, -, h⟩ := wb_v h
          obtain ⟨-, h⟩ := wb_n h
          obtain ⟨M0_7, -, h⟩ := wb_v h
          obtain ⟨-, h⟩ := wb_n h
          obtain ⟨M0_8, -, h⟩ := wb_v h
          obtain ⟨r9b, -, h⟩ := wb_b h
          rcases fr_i h with h | h
          · have h := Option.some.inj h
            subst h
            exact ⟨fI_r5, fM_r5⟩
          · obtain ⟨r10, e_r10, h⟩ := wb_b h
            have a5 := fr_fX9_step e_r10
            have fI_r10 := a5.1.tr (W := fwI_X5_readTable) (by decide) fI_r5
            have fM_r10 := a5.2.tr (W := fwM_X5_readTable) (by decide) fM_r5
            obtain ⟨r11, e_r11, h⟩ := wb_b h
            have a6 := fr_fX9_takeNumber e_r11
            have fI_r11 := a6.1.tr (W := fwI_X5_readTable) (by decide) fI_r10
            have fM_r11 := a6.2.tr (W := fwM_X5_readTable) (by decide) fM_r10
            rcases fr_i h with h | h
            · have h := Option.some.inj h
              subst h
              exact ⟨fI_r11, fM_r11⟩
            · obtain ⟨-, h⟩ := wb_n h
              obtain ⟨M0_12, -, h⟩ := wb_v h
              obtain ⟨r13, e_r13, h⟩ := wb_b h
              have a7 := fr_fX9_takeWord e_r13
              have fI_r13 := a7.1.tr (W := fwI_X5_readTable) (by decide) fI_r11
              have fM_r13 := a7.2.tr (W := fwM_X5_readTable) (by decide) fM_r11
              rcases fr_i h with h | h
              · have h := Option.some.inj h
                subst h
                exact ⟨fI_r13, fM_r13⟩
              · obtain ⟨r14, e_r14, h⟩ := wb_b h
                have a8 := fr_fX9_takeNumber e_r14
                have fI_r14 := a8.1.tr (W := fwI_X5_readTable) (by decide) fI_r13
                have fM_r14 := a8.2.tr (W := fwM_X5_readTable) (by decide) fM_r13
                rcases fr_i h with h | h
                · have h := Option.some.inj h
                  subst h
                  exact ⟨fI_r14, fM_r14⟩
                · obtain ⟨-, h⟩ := wb_n h
                  obtain ⟨M0_15, -, h⟩ := wb_v h
                  have h := Option.some.inj h
                  subst h
                  exact ⟨fI_r14, fM_r14⟩
abbrev fwI_X5_readSet : List Nat := [2, 3, 4, 5, 6, 7, 8]
abbrev fwM_X5_readSet : List Nat := []
theorem fr_fX5_readSet {N : Nat} {I0 : Nat → Int32} {M0 : Nat → Nat → Int32} {I1 : Nat → Int32} {M1 : Nat → Nat → Int32} {R} (h : fX5_readSet N I0 M0 I1 M1 = some R) : Eqo fwI_X5_readSet R.2.2.2.1 I1 ∧ Eqo fwM_X5_readSet R.2.2.2.2 M1 := by
  unfold fX5_readSet at h
  obtain ⟨r1, e_r1, h⟩ := wb_b h
  have a1 := fr_fX9_step e_r1
  have fI_r1 := a1.1.tr (W := fwI_X5_readSet) (by decide) (Eqo.refl fwI_X5_readSet I1)
  have fM_r1 := a1.2.tr (W := fwM_X5_readSet) (by decide) (Eqo.refl fwM_X5_readSet M1)
  obtain ⟨r2, e_r2, h⟩ := wb_b h
  have a2 := fr_fX9_takeNumber e_r2
  have fI_r2 := a2.1.tr (W := fwI_X5_readSet) (by decide) fI_r1
  have fM_r2 := a2.2.tr (W := fwM_X5_readSet) (by decide) fM_r1
  rcases fr_i h with h | h
  · have h := Option.some.inj h
    subst h
    exact ⟨fI_r2, fM_r2⟩
  · obtain ⟨v3, -, h⟩ := wb_v h
    obtain ⟨r4, -, h⟩ := wb_b h
    rcases fr_i h with h | h
    · obtain ⟨r8, e_r8, h⟩ := wb_b h
      have a3 := fr_fX9_refuse e_r8
      have fI_r8 := a3.1.tr (W := fwI_X5_readSet) (by decide) fI_r2
      have fM_r8 := a3.2.tr (W := fwM_X5_readSet) (by decide) fM_r2
      rcases fr_i h with h | h
      · have h := Option.some.inj h
        subst h
        exact ⟨fI_r8, fM_r8⟩
      · cases h
    · obtain ⟨r5, e_r5, h⟩ := wb_b h
      have a4 := fr_fX9_step e_r5
      have fI_r5 := a4.1.tr (W := fwI_X5_readSet) (by decide) fI_r2
      have fM_r5 := a4.2.tr (W := fwM_X5_readSet) (by decide) fM_r2
      obtain ⟨r6, e_r6, h⟩ := wb_b h
      have a5 := fr_fX5_readTable e_r6
      have fI_r6 := a5.1.tr (W := fwI_X5_readSet) (by decide) fI_r5
      have fM_r6 := a5.2.tr (W := fwM_X5_readSet) (by decide) fM_r5
      rcases fr_i h with h | h
      · have h := Option.some.inj h
        subst h
        exact ⟨fI_r6, fM_r6⟩
      · obtain ⟨r7, e_r7, h⟩ := wb_b h
        have a6 := fr_fX9_takeStop e_r7
        have fI_r7 := a6.1.tr (W := fwI_X5_readSet) (by decide) fI_r6
        have fM_r7 := a6.2.tr (W := fwM_X5_readSet) (by decide) fM_r6
        rcases fr_i h with h | h
        · have h := Option.some.inj h
          subst h
          exact ⟨fI_r7, fM_r7⟩
        · have h := Option.some.inj h
          subst h
          exact ⟨fI_r7, fM_r7⟩
abbrev fwI_X5_readLines : List Nat := [2, 3, 4, 5, 6, 7, 8]
abbrev fwM_X5_readLines : List Nat := []
theorem fr_fX5_readLines_L4 {N : Nat} : ∀ fu I0_l4 M0_l4 I1_l4 M1_l4 y4_2 y4_3 R, fX5_readLines_L4 N fu I0_l4 M0_l4 I1_l4 M1_l4 y4_2 y4_3 = some R → Eqo fwI_X5_readLines R.2.2.2.1 I1_l4 ∧ Eqo fwM_X5_readLines R.2.2.2.2 M1_l4 := by
  intro fu
  induction fu with
  | zero => intro I0_l4 M0_l4 I1_l4 M1_l4 y4_2 y4_3 R h; cases (show none = some R from h)
  | succ fu ih =>
    intro I0_l4 M0_l4 I1_l4 M1_l4 y4_2 y4_3 R h
    rw [fX5_readLines_L4.eq_2] at h
    rcases fr_i h with h | h
    · rcases fr_i h with h | h
      · have h := Option.some.inj h
        subst h
        exact ⟨(Eqo.refl fwI_X5_readLines I1_l4), (Eqo.refl fwM_X5_readLines M1_l4)⟩
      · cases h
    · rcases fr_i h with h | h
      · rcases fr_i h with h | h
        · have h := Option.some.inj h
          subst h
          exact ⟨(Eqo.refl fwI_X5_readLines I1_l4), (Eqo.refl fwM_X5_readLines M1_l4)⟩
        · cases h
      · obtain ⟨r1, -, h⟩ := wb_b h
        rcases fr_i h with h | h
        · obtain ⟨r2, -, h⟩ := wb_b h
          rcases fr_i h with h | h
          · obtain ⟨r3, -, h⟩ := wb_b h
            rcases fr_i h with h | h
            · obtain ⟨r4, -, h⟩ := wb_b h
              rcases fr_i h with h | h
              · obtain ⟨r5, e_r5, h⟩ := wb_b h
                have a1 := fr_fX9_refuse e_r5
                have fI_r5 := a1.1.tr (W := fwI_X5_readLines) (by decide) (Eqo.refl fwI_X5_readLines I1_l4)
                have fM_r5 := a1.2.tr (W := fwM_X5_readLines) (by decide) (Eqo.refl fwM_X5_readLines M1_l4)
                obtain ⟨v6, -, h⟩ := wb_v h
                obtain ⟨v7, -, h⟩ := wb_v h
                have a2 := ih _ _ _ _ _ _ _ h
                exact ⟨a2.1.tr (by decide) fI_r5, a2.2.tr (by decide) fM_r5⟩
              · obtain ⟨r8, e_r8, h⟩ := wb_b h
                have a3 := fr_fX4_readHand e_r8
                have fI_r8 := a3.1.tr (W := fwI_X5_readLines) (by decide) (Eqo.refl fwI_X5_readLines I1_l4)
                have fM_r8 := a3.2.tr (W := fwM_X5_readLines) (by decide) (Eqo.refl fwM_X5_readLines M1_l4)
                obtain ⟨I0_9, -, h⟩ := wb_v h
                obtain ⟨M0_10, -, h⟩ := wb_v h
                obtain ⟨v11, -, h⟩ := wb_v h
                obtain ⟨v12, -, h⟩ := wb_v h
                have a4 := ih _ _ _ _ _ _ _ h
                exact ⟨a4.1.tr (by decide) fI_r8, a4.2.tr (by decide) fM_r8⟩
            · obtain ⟨r13, e_r13, h⟩ := wb_b h
              have a5 := fr_fX2_readClimate e_r13
              have fI_r13 := a5.1.tr (W := fwI_X5_readLines) (by decide) (Eqo.refl fwI_X5_readLines I1_l4)
              have fM_r13 := a5.2.tr (W := fwM_X5_readLines) (by decide) (Eqo.refl fwM_X5_readLines M1_l4)
              obtain ⟨I0_14, -, h⟩ := wb_v h
              obtain ⟨M0_15, -, h⟩ := wb_v h
              obtain ⟨v16, -, h⟩ := wb_v h
              obtain ⟨v17, -, h⟩ := wb_v h
              have a6 := ih _ _ _ _ _ _ _ h
              exact ⟨a6.1.tr (by decide) fI_r13, a6.2.tr (by decide) fM_r13⟩
          · obtain ⟨r18, e_r18, h⟩ := wb_b h
            have a7 := fr_fX5_readSet e_r18
            have fI_r18 := a7.1.tr (W := fwI_X5_readLines) (by decide) (Eqo.refl fwI_X5_readLines I1_l4)
            have fM_r18 := a7.2.tr (W := fwM_X5_readLines) (by decide) (Eqo.refl fwM_X5_readLines M1_l4)
            obtain ⟨v19, -, h⟩ := wb_v h
            obtain ⟨v20, -, h⟩ := wb_v h
            have a8 := ih _ _ _ _ _ _ _ h
            exact ⟨a8.1.tr (by decide) fI_r18, a8.2.tr (by decide) fM_r18⟩
        · rcases fr_i h with h | h
          · have h := Option.some.inj h
            subst h
            exact ⟨(Eqo.refl fwI_X5_readLines I1_l4), (Eqo.refl fwM_X5_readLines M1_l4)⟩
          · cases h
theorem fr_fX5_readLines {N : Nat} {I0 : Nat → Int32} {M0 : Nat → Nat → Int32} {I1 : Nat → Int32} {M1 : Nat → Nat → Int32} {R} (h : fX5_readLines N I0 M0 I1 M1 = some R) : Eqo fwI_X5_readLines R.2.2.2.1 I1 ∧ Eqo fwM_X5_readLines R.2.2.2.2 M1 := by
  unfold fX5_readLines at h
  have a1 := fr_fX5_readLines_L4 _ _ _ _ _ _ _ _ h
  exact ⟨a1.1.tr (by decide) (Eqo.refl fwI_X5_readLines I1), a1.2.tr (by decide) (Eqo.refl fwM_X5_readLines M1)⟩

abbrev fwI_X9_step : List Nat := [2, 3, 4, 5]
abbrev fwM_X9_step : List Nat := []
theorem fr_fX9_step_J254 {N : Nat} {I0_j254 : Nat → Int32} {M0_j254 : Nat → Nat → Int32} {z254_0 : Int32} {R} (h : fX9_step_J254 N I0_j254 M0_j254 z254_0 = some R) : Eqo fwI_X9_step R.1 I0_j254 ∧ Eqo fwM_X9_step R.2 M0_j254 := by
  unfold fX9_step_J254 at h
  obtain ⟨I0_1, e_I0_1, h⟩ := wb_v h
  have f_I0_1 := Eqo.eq e_I0_1 (Eqo.u (by decide) (Eqo.refl fwI_X9_step I0_j254))
  obtain ⟨I0_2, e_I0_2, h⟩ := wb_v h
  have f_I0_2 := Eqo.eq e_I0_2 (Eqo.u (by decide) f_I0_1)
  have h := Option.some.inj h
  subst h
  exact ⟨f_I0_2, (Eqo.refl fwM_X9_step M0_j254)⟩
theorem fr_fX9_step_J218 {N : Nat} {g150 : (Nat → Int32) → (Nat → Nat → Int32) → Option ((Nat → Int32) × (Nat → Nat → Int32))} {I0_j218 : Nat → Int32} {M0_j218 : Nat → Nat → Int32} {z218_0 : Int32} (hg150 : ∀ q0 q1 R, g150 q0 q1 = some R → Eqo fwI_X9_step R.1 q0 ∧ Eqo fwM_X9_step R.2 q1) {R} (h : fX9_step_J218 N g150 I0_j218 M0_j218 z218_0 = some R) : Eqo fwI_X9_step R.1 I0_j218 ∧ Eqo fwM_X9_step R.2 M0_j218 := by
  unfold fX9_step_J218 at h
  obtain ⟨I0_8, e_I0_8, h⟩ := wb_v h
  have f_I0_8 := Eqo.eq e_I0_8 (Eqo.u (by decide) (Eqo.refl fwI_X9_step I0_j218))
  obtain ⟨I0_9, e_I0_9, h⟩ := wb_v h
  have f_I0_9 := Eqo.eq e_I0_9 (Eqo.u (by decide) f_I0_8)
  have a1 := hg150 _ _ _ h
  exact ⟨a1.1.tr (by decide) f_I0_9, a1.2.tr (by decide) (Eqo.refl fwM_X9_step M0_j218)⟩
theorem fr_fX9_step_L150 {N : Nat} : ∀ fu I0_l150 M0_l150 R, fX9_step_L150 N fu I0_l150 M0_l150 = some R → Eqo fwI_X9_step R.1 I0_l150 ∧ Eqo fwM_X9_step R.2 M0_l150 := by
  intro fu
  induction fu with
  | zero => intro I0_l150 M0_l150 R h; cases (show none = some R from h)
  | succ fu ih =>
    intro I0_l150 M0_l150 R h
    rw [fX9_step_L150.eq_2] at h
    rcases fr_i h with h | h
    · have h := Option.some.inj h
      subst h
      exact ⟨(Eqo.refl fwI_X9_step I0_l150), (Eqo.refl fwM_X9_step M0_l150)⟩
    · obtain ⟨-, h⟩ := wb_n h
      obtain ⟨r10, -, h⟩ := wb_b h
      rcases fr_i h with h | h
      · have h := Option.some.inj h
        subst h
        exact ⟨(Eqo.refl fwI_X9_step I0_l150), (Eqo.refl fwM_X9_step M0_l150)⟩
      · rcases fr_i h with h | h
        · have c103 : ∀ q0 q1 R, (fX9_step_L150 N fu q0 q1) = some R → Eqo fwI_X9_step R.1 q0 ∧ Eqo fwM_X9_step R.2 q1 := by
              intro q0 q1 R h
              have a102 := ih _ _ _ h
              exact ⟨a102.1.tr (by decide) (Eqo.refl fwI_X9_step q0), a102.2.tr (by decide) (Eqo.refl fwM_X9_step q1)⟩
          have a1 := fr_fX9_step_J218 c103 h
          exact ⟨a1.1.tr (by decide) (Eqo.refl fwI_X9_step I0_l150), a1.2.tr (by decide) (Eqo.refl fwM_X9_step M0_l150)⟩
        · obtain ⟨-, h⟩ := wb_n h
          have c206 : ∀ q0 q1 R, (fX9_step_L150 N fu q0 q1) = some R → Eqo fwI_X9_step R.1 q0 ∧ Eqo fwM_X9_step R.2 q1 := by
              intro q0 q1 R h
              have a205 := ih _ _ _ h
              exact ⟨a205.1.tr (by decide) (Eqo.refl fwI_X9_step q0), a205.2.tr (by decide) (Eqo.refl fwM_X9_step q1)⟩
          have a104 := fr_fX9_step_J218 c206 h
          exact ⟨a104.1.tr (by decide) (Eqo.refl fwI_X9_step I0_l150), a104.2.tr (by decide) (Eqo.refl fwM_X9_step M0_l150)⟩
theorem fr_fX9_step_L86 {N : Nat} : ∀ fu I0_l86 M0_l86 R, fX9_step_L86 N fu I0_l86 M0_l86 = some R → Eqo fwI_X9_step R.1 I0_l86 ∧ Eqo fwM_X9_step R.2 M0_l86 := by
  intro fu
  induction fu with
  | zero => intro I0_l86 M0_l86 R h; cases (show none = some R from h)
  | succ fu ih =>
    intro I0_l86 M0_l86 R h
    rw [fX9_step_L86.eq_2] at h
    rcases fr_i h with h | h
    · have h := Option.some.inj h
      subst h
      exact ⟨(Eqo.refl fwI_X9_step I0_l86), (Eqo.refl fwM_X9_step M0_l86)⟩
    · obtain ⟨-, h⟩ := wb_n h
      obtain ⟨r12, -, h⟩ := wb_b h
      rcases fr_i h with h | h
      · have h := Option.some.inj h
        subst h
        exact ⟨(Eqo.refl fwI_X9_step I0_l86), (Eqo.refl fwM_X9_step M0_l86)⟩
      · obtain ⟨I0_13, e_I0_13, h⟩ := wb_v h
        have f_I0_13 := Eqo.eq e_I0_13 (Eqo.u (by decide) (Eqo.refl fwI_X9_step I0_l86))
        have a1 := ih _ _ _ h
        exact ⟨a1.1.tr (by decide) f_I0_13, a1.2.tr (by decide) (Eqo.refl fwM_X9_step M0_l86)⟩
theorem fr_fX9_step_J39 {N : Nat} {I0_j39 : Nat → Int32} {M0_j39 : Nat → Nat → Int32} {R} (h : fX9_step_J39 N I0_j39 M0_j39 = some R) : Eqo fwI_X9_step R.1 I0_j39 ∧ Eqo fwM_X9_step R.2 M0_j39 := by
  unfold fX9_step_J39 at h
  obtain ⟨I0_3, e_I0_3, h⟩ := wb_v h
  have f_I0_3 := Eqo.eq e_I0_3 (Eqo.u (by decide) (Eqo.refl fwI_X9_step I0_j39))
  rcases fr_i h with h | h
  · obtain ⟨-, h⟩ := wb_n h
    obtain ⟨r4, -, h⟩ := wb_b h
    rcases fr_i h with h | h
    · obtain ⟨-, h⟩ := wb_n h
      obtain ⟨r5, -, h⟩ := wb_b h
      rcases fr_i h with h | h
      · obtain ⟨-, h⟩ := wb_n h
        rcases fr_i h with h | h
        · have a1 := fr_fX9_step_J254 h
          exact ⟨a1.1.tr (by decide) f_I0_3, a1.2.tr (by decide) (Eqo.refl fwM_X9_step M0_j39)⟩
        · have a2 := fr_fX9_step_J254 h
          exact ⟨a2.1.tr (by decide) f_I0_3, a2.2.tr (by decide) (Eqo.refl fwM_X9_step M0_j39)⟩
      · obtain ⟨I0_6, e_I0_6, h⟩ := wb_v h
        have f_I0_6 := Eqo.eq e_I0_6 (Eqo.u (by decide) f_I0_3)
        obtain ⟨I0_7, e_I0_7, h⟩ := wb_v h
        have f_I0_7 := Eqo.eq e_I0_7 (Eqo.u (by decide) f_I0_6)
        have a3 := fr_fX9_step_L150 _ _ _ _ h
        exact ⟨a3.1.tr (by decide) f_I0_7, a3.2.tr (by decide) (Eqo.refl fwM_X9_step M0_j39)⟩
    · obtain ⟨I0_11, e_I0_11, h⟩ := wb_v h
      have f_I0_11 := Eqo.eq e_I0_11 (Eqo.u (by decide) f_I0_3)
      have a4 := fr_fX9_step_L86 _ _ _ _ h
      exact ⟨a4.1.tr (by decide) f_I0_11, a4.2.tr (by decide) (Eqo.refl fwM_X9_step M0_j39)⟩
  · obtain ⟨I0_14, e_I0_14, h⟩ := wb_v h
    have f_I0_14 := Eqo.eq e_I0_14 (Eqo.u (by decide) f_I0_3)
    have h := Option.some.inj h
    subst h
    exact ⟨f_I0_14, (Eqo.refl fwM_X9_step M0_j39)⟩
theorem fr_fX9_step_L0 {N : Nat} : ∀ fu I0_l0 M0_l0 R, fX9_step_L0 N fu I0_l0 M0_l0 = some R → Eqo fwI_X9_step R.1 I0_l0 ∧ Eqo fwM_X9_step R.2 M0_l0 := by
  intro fu
  induction fu with
  | zero => intro I0_l0 M0_l0 R h; cases (show none = some R from h)
  | succ fu ih =>
    intro I0_l0 M0_l0 R h
    rw [fX9_step_L0.eq_2] at h
    rcases fr_i h with h | h
    · have a1 := fr_fX9_step_J39 h
      exact ⟨a1.1.tr (by decide) (Eqo.refl fwI_X9_step I0_l0), a1.2.tr (by decide) (Eqo.refl fwM_X9_step M0_l0)⟩
    · obtain ⟨-, h⟩ := wb_n h
      obtain ⟨r15, -, h⟩ := wb_b h
      rcases fr_i h with h | h
      · have a2 := fr_fX9_step_J39 h
        exact ⟨a2.1.tr (by decide) (Eqo.refl fwI_X9_step I0_l0), a2.2.tr (by decide) (Eqo.refl fwM_X9_step M0_l0)⟩
      · obtain ⟨I0_16, e_I0_16, h⟩ := wb_v h
        have f_I0_16 := Eqo.eq e_I0_16 (Eqo.u (by decide) (Eqo.refl fwI_X9_step I0_l0))
        have a3 := ih _ _ _ h
        exact ⟨a3.1.tr (by decide) f_I0_16, a3.2.tr (by decide) (Eqo.refl fwM_X9_step M0_l0)⟩
theorem fr_fX9_step {N : Nat} {I0 : Nat → Int32} {M0 : Nat → Nat → Int32} {R} (h : fX9_step N I0 M0 = some R) : Eqo fwI_X9_step R.1 I0 ∧ Eqo fwM_X9_step R.2 M0 := by
  unfold fX9_step at h
  have a1 := fr_fX9_step_L0 _ _ _ _ h
  exact ⟨a1.1.tr (by decide) (Eqo.refl fwI_X9_step I0), a1.2.tr (by decide) (Eqo.refl fwM_X9_step M0)⟩
abbrev fwI_X9_refuse : List Nat := [7, 8]
abbrev fwM_X9_refuse : List Nat := []
theorem fr_fX9_refuse {N : Nat} {I0 : Nat → Int32} {M0 : Nat → Nat → Int32} {x1 : Int32} {R} (h : fX9_refuse N I0 M0 x1 = some R) : Eqo fwI_X9_refuse R.2.1 I0 ∧ Eqo fwM_X9_refuse R.2.2 M0 := by
  unfold fX9_refuse at h
  obtain ⟨I0_1, e_I0_1, h⟩ := wb_v h
  have f_I0_1 := Eqo.eq e_I0_1 (Eqo.u (by decide) (Eqo.refl fwI_X9_refuse I0))
  obtain ⟨I0_2, e_I0_2, h⟩ := wb_v h
  have f_I0_2 := Eqo.eq e_I0_2 (Eqo.u (by decide) f_I0_1)
  have h := Option.some.inj h
  subst h
  exact ⟨f_I0_2, (Eqo.refl fwM_X9_refuse M0)⟩
abbrev fwI_X1_isNew : List Nat := [2, 3, 4, 5, 7, 8]
abbrev fwM_X1_isNew : List Nat := []
theorem fr_fX1_isNew {N : Nat} {I0 : Nat → Int32} {M0 : Nat → Nat → Int32} {I1 : Nat → Int32} {M1 : Nat → Nat → Int32} {x2 : Int32} {R} (h : fX1_isNew N I0 M0 I1 M1 x2 = some R) : Eqo fwI_X1_isNew R.2.1 I1 ∧ Eqo fwM_X1_isNew R.2.2 M1 := by
  unfold fX1_isNew at h
  obtain ⟨-, h⟩ := wb_n h
  rcases fr_i h with h | h
  · obtain ⟨r1, e_r1, h⟩ := wb_b h
    have a1 := fr_fX9_step e_r1
    have fI_r1 := a1.1.tr (W := fwI_X1_isNew) (by decide) (Eqo.refl fwI_X1_isNew I1)
    have fM_r1 := a1.2.tr (W := fwM_X1_isNew) (by decide) (Eqo.refl fwM_X1_isNew M1)
    have h := Option.some.inj h
    subst h
    exact ⟨fI_r1, fM_r1⟩
  · obtain ⟨r2, e_r2, h⟩ := wb_b h
    have a2 := fr_fX9_refuse e_r2
    have fI_r2 := a2.1.tr (W := fwI_X1_isNew) (by decide) (Eqo.refl fwI_X1_isNew I1)
    have fM_r2 := a2.2.tr (W := fwM_X1_isNew) (by decide) (Eqo.refl fwM_X1_isNew M1)
    rcases fr_i h with h | h
    · have h := Option.some.inj h
      subst h
      exact ⟨fI_r2, fM_r2⟩
    · cases h
abbrev fwI_X9_holdsNumber : List Nat := [6, 7, 8]
abbrev fwM_X9_holdsNumber : List Nat := []
theorem fr_fX9_holdsNumber {N : Nat} {I0 : Nat → Int32} {M0 : Nat → Nat → Int32} {x1 : Int32} {x2 : Int32} {R} (h : fX9_holdsNumber N I0 M0 x1 x2 = some R) : Eqo fwI_X9_holdsNumber R.2.1 I0 ∧ Eqo fwM_X9_holdsNumber R.2.2 M0 := by
  unfold fX9_holdsNumber at h
  rcases fr_i h with h | h
  · rcases fr_i h with h | h
    · obtain ⟨r1, e_r1, h⟩ := wb_b h
      have a1 := fr_fX9_refuse e_r1
      have fI_r1 := a1.1.tr (W := fwI_X9_holdsNumber) (by decide) (Eqo.refl fwI_X9_holdsNumber I0)
      have fM_r1 := a1.2.tr (W := fwM_X9_holdsNumber) (by decide) (Eqo.refl fwM_X9_holdsNumber M0)
      rcases fr_i h with h | h
      · have h := Option.some.inj h
        subst h
        exact ⟨fI_r1, fM_r1⟩
      · cases h
    · rcases fr_i h with h | h
      · obtain ⟨r2, e_r2, h⟩ := wb_b h
        have a2 := fr_fX9_refuse e_r2
        have fI_r2 := a2.1.tr (W := fwI_X9_holdsNumber) (by decide) (Eqo.refl fwI_X9_holdsNumber I0)
        have fM_r2 := a2.2.tr (W := fwM_X9_holdsNumber) (by decide) (Eqo.refl fwM_X9_holdsNumber M0)
        rcases fr_i h with h | h
        · have h := Option.some.inj h
          subst h
          exact ⟨fI_r2, fM_r2⟩
        · cases h
      · rcases fr_i h with h | h
        · obtain ⟨I0_3, e_I0_3, h⟩ := wb_v h
          have f_I0_3 := Eqo.eq e_I0_3 (Eqo.u (by decide) (Eqo.refl fwI_X9_holdsNumber I0))
          have h := Option.some.inj h
          subst h
          exact ⟨f_I0_3, (Eqo.refl fwM_X9_holdsNumber M0)⟩
        · obtain ⟨r4, e_r4, h⟩ := wb_b h
          have a3 := fr_fX9_refuse e_r4
          have fI_r4 := a3.1.tr (W := fwI_X9_holdsNumber) (by decide) (Eqo.refl fwI_X9_holdsNumber I0)
          have fM_r4 := a3.2.tr (W := fwM_X9_holdsNumber) (by decide) (Eqo.refl fwM_X9_holdsNumber M0)
          rcases fr_i h with h | h
          · have h := Option.some.inj h
            subst h
            exact ⟨fI_r4, fM_r4⟩
          · cases h
  · obtain ⟨r5, e_r5, h⟩ := wb_b h
    have a4 := fr_fX9_refuse e_r5
    have fI_r5 := a4.1.tr (W := fwI_X9_holdsNumber) (by decide) (Eqo.refl fwI_X9_holdsNumber I0)
    have fM_r5 := a4.2.tr (W := fwM_X9_holdsNumber) (by decide) (Eqo.refl fwM_X9_holdsNumber M0)
    rcases fr_i h with h | h
    · have h := Option.some.inj h
      subst h
      exact ⟨fI_r5, fM_r5⟩
    · cases h
abbrev fwI_X9_takeNumber : List Nat := [2, 3, 4, 5, 6, 7, 8]
abbrev fwM_X9_takeNumber : List Nat := []
theorem fr_fX9_takeNumber {N : Nat} {I0 : Nat → Int32} {M0 : Nat → Nat → Int32} {x1 : Int32} {x2 : Int32} {R} (h : fX9_takeNumber N I0 M0 x1 x2 = some R) : Eqo fwI_X9_takeNumber R.2.1 I0 ∧ Eqo fwM_X9_takeNumber R.2.2 M0 := by
  unfold fX9_takeNumber at h
  obtain ⟨r1, e_r1, h⟩ := wb_b h
  have a1 := fr_fX9_holdsNumber e_r1
  have fI_r1 := a1.1.tr (W := fwI_X9_takeNumber) (by decide) (Eqo.refl fwI_X9_takeNumber I0)
  have fM_r1 := a1.2.tr (W := fwM_X9_takeNumber) (by decide) (Eqo.refl fwM_X9_takeNumber M0)
  rcases fr_i h with h | h
  · have h := Option.some.inj h
    subst h
    exact ⟨fI_r1, fM_r1⟩
  · obtain ⟨r2, e_r2, h⟩ := wb_b h
    have a2 := fr_fX9_step e_r2
    have fI_r2 := a2.1.tr (W := fwI_X9_takeNumber) (by decide) fI_r1
    have fM_r2 := a2.2.tr (W := fwM_X9_takeNumber) (by decide) fM_r1
    have h := Option.some.inj h
    subst h
    exact ⟨fI_r2, fM_r2⟩
abbrev fwI_X9_takeStop : List Nat := [2, 3, 4, 5, 7, 8]
abbrev fwM_X9_takeStop : List Nat := []
theorem fr_fX9_takeStop {N : Nat} {I0 : Nat → Int32} {M0 : Nat → Nat → Int32} {R} (h : fX9_takeStop N I0 M0 = some R) : Eqo fwI_X9_takeStop R.2.1 I0 ∧ Eqo fwM_X9_takeStop R.2.2 M0 := by
  unfold fX9_takeStop at h
  rcases fr_i h with h | h
  · obtain ⟨r1, e_r1, h⟩ := wb_b h
    have a1 := fr_fX9_step e_r1
    have fI_r1 := a1.1.tr (W := fwI_X9_takeStop) (by decide) (Eqo.refl fwI_X9_takeStop I0)
    have fM_r1 := a1.2.tr (W := fwM_X9_takeStop) (by decide) (Eqo.refl fwM_X9_takeStop M0)
    have h := Option.some.inj h
    subst h
    exact ⟨fI_r1, fM_r1⟩
  · obtain ⟨r2, e_r2, h⟩ := wb_b h
    have a2 := fr_fX9_refuse e_r2
    have fI_r2 := a2.1.tr (W := fwI_X9_takeStop) (by decide) (Eqo.refl fwI_X9_takeStop I0)
    have fM_r2 := a2.2.tr (W := fwM_X9_takeStop) (by decide) (Eqo.refl fwM_X9_takeStop M0)
    rcases fr_i h with h | h
    · have h := Option.some.inj h
      subst h
      exact ⟨fI_r2, fM_r2⟩
    · cases h
abbrev fwI_X1_readDegree : List Nat := [2, 3, 4, 5, 6, 7, 8]
abbrev fwM_X1_readDegree : List Nat := []
theorem fr_fX1_readDegree {N : Nat} {I0 : Nat → Int32} {M0 : Nat → Nat → Int32} {I1 : Nat → Int32} {M1 : Nat → Nat → Int32} {x2 : Int32} {R} (h : fX1_readDegree N I0 M0 I1 M1 x2 = some R) : Eqo fwI_X1_readDegree R.2.2.2.1 I1 ∧ Eqo fwM_X1_readDegree R.2.2.2.2 M1 := by
  unfold fX1_readDegree at h
  obtain ⟨r1, e_r1, h⟩ := wb_b h
  have a1 := fr_fX1_isNew e_r1
  have fI_r1 := a1.1.tr (W := fwI_X1_readDegree) (by decide) (Eqo.refl fwI_X1_readDegree I1)
  have fM_r1 := a1.2.tr (W := fwM_X1_readDegree) (by decide) (Eqo.refl fwM_X1_readDegree M1)
  rcases fr_i h with h | h
  · have h := Option.some.inj h
    subst h
    exact ⟨fI_r1, fM_r1⟩
  · obtain ⟨r2, e_r2, h⟩ := wb_b h
    have a2 := fr_fX9_takeNumber e_r2
    have fI_r2 := a2.1.tr (W := fwI_X1_readDegree) (by decide) fI_r1
    have fM_r2 := a2.2.tr (W := fwM_X1_readDegree) (by decide) fM_r1
    rcases fr_i h with h | h
    · have h := Option.some.inj h
      subst h
      exact ⟨fI_r2, fM_r2⟩
    · obtain ⟨v3, -, h⟩ := wb_v h
      obtain ⟨r4, e_r4, h⟩ := wb_b h
      have a3 := fr_fX9_takeNumber e_r4
      have fI_r4 := a3.1.tr (W := fwI_X1_readDegree) (by decide) fI_r2
      have fM_r4 := a3.2.tr (W := fwM_X1_readDegree) (by decide) fM_r2
      rcases fr_i h with h | h
      · have h := Option.some.inj h
        subst h
        exact ⟨fI_r4, fM_r4⟩
      · obtain ⟨-, h⟩ := wb_n h
        obtain ⟨M0_5, -, h⟩ := wb_v h
        obtain ⟨r6, e_r6, h⟩ := wb_b h
        have a4 := fr_fX9_takeStop e_r6
        have fI_r6 := a4.1.tr (W := fwI_X1_readDegree) (by decide) fI_r4
        have fM_r6 := a4.2.tr (W := fwM_X1_readDegree) (by decide) fM_r4
        rcases fr_i h with h | h
        · have h := Option.some.inj h
          subst h
          exact ⟨fI_r6, fM_r6⟩
        · cases h
abbrev fwI_X1_readDate : List Nat := [2, 3, 4, 5, 6, 7, 8]
abbrev fwM_X1_readDate : List Nat := []
theorem fr_fX1_readDate_J41 {N : Nat} {I0_j41 : Nat → Int32} {M0_j41 : Nat → Nat → Int32} {I1_j41 : Nat → Int32} {M1_j41 : Nat → Nat → Int32} {y41_2 : Int32} {z41_0 : Int32} {z41_1 : Int32} {R} (h : fX1_readDate_J41 N I0_j41 M0_j41 I1_j41 M1_j41 y41_2 z41_0 z41_1 = some R) : Eqo fwI_X1_readDate R.2.2.2.1 I1_j41 ∧ Eqo fwM_X1_readDate R.2.2.2.2 M1_j41 := by
  unfold fX1_readDate_J41 at h
  obtain ⟨r1, e_r1, h⟩ := wb_b h
  have a1 := fr_fX9_takeNumber e_r1
  have fI_r1 := a1.1.tr (W := fwI_X1_readDate) (by decide) (Eqo.refl fwI_X1_readDate I1_j41)
  have fM_r1 := a1.2.tr (W := fwM_X1_readDate) (by decide) (Eqo.refl fwM_X1_readDate M1_j41)
  rcases fr_i h with h | h
  · have h := Option.some.inj h
    subst h
    exact ⟨fI_r1, fM_r1⟩
  · obtain ⟨-, h⟩ := wb_n h
    obtain ⟨M0_2, -, h⟩ := wb_v h
    obtain ⟨r3, e_r3, h⟩ := wb_b h
    have a2 := fr_fX9_takeStop e_r3
    have fI_r3 := a2.1.tr (W := fwI_X1_readDate) (by decide) fI_r1
    have fM_r3 := a2.2.tr (W := fwM_X1_readDate) (by decide) fM_r1
    rcases fr_i h with h | h
    · have h := Option.some.inj h
      subst h
      exact ⟨fI_r3, fM_r3⟩
    · cases h
theorem fr_fX1_readDate {N : Nat} {I0 : Nat → Int32} {M0 : Nat → Nat → Int32} {I1 : Nat → Int32} {M1 : Nat → Nat → Int32} {R} (h : fX1_readDate N I0 M0 I1 M1 = some R) : Eqo fwI_X1_readDate R.2.2.2.1 I1 ∧ Eqo fwM_X1_readDate R.2.2.2.2 M1 := by
  unfold fX1_readDate at h
  obtain ⟨r4, e_r4, h⟩ := wb_b h
  have a1 := fr_fX1_isNew e_r4
  have fI_r4 := a1.1.tr (W := fwI_X1_readDate) (by decide) (Eqo.refl fwI_X1_readDate I1)
  have fM_r4 := a1.2.tr (W := fwM_X1_readDate) (by decide) (Eqo.refl fwM_X1_readDate M1)
  rcases fr_i h with h | h
  · have h := Option.some.inj h
    subst h
    exact ⟨fI_r4, fM_r4⟩
  · obtain ⟨r5, e_r5, h⟩ := wb_b h
    have a2 := fr_fX9_takeNumber e_r5
    have fI_r5 := a2.1.tr (W := fwI_X1_readDate) (by decide) fI_r4
    have fM_r5 := a2.2.tr (W := fwM_X1_readDate) (by decide) fM_r4
    rcases fr_i h with h | h
    · have h := Option.some.inj h
      subst h
      exact ⟨fI_r5, fM_r5⟩
    · obtain ⟨v6, -, h⟩ := wb_v h
      rcases fr_i h with h | h
      · have a3 := fr_fX1_readDate_J41 h
        exact ⟨a3.1.tr (by decide) fI_r5, a3.2.tr (by decide) fM_r5⟩
      · have a4 := fr_fX1_readDate_J41 h
        exact ⟨a4.1.tr (by decide) fI_r5, a4.2.tr (by decide) fM_r5⟩
abbrev fwI_X1_readEntry : List Nat := [2, 3, 4, 5, 6, 7, 8]
abbrev fwM_X1_readEntry : List Nat := []
theorem fr_fX1_readEntry {N : Nat} {I0 : Nat → Int32} {M0 : Nat → Nat → Int32} {I1 : Nat → Int32} {M1 : Nat → Nat → Int32} {R} (h : fX1_readEntry N I0 M0 I1 M1 = some R) : Eqo fwI_X1_readEntry R.2.2.2.1 I1 ∧ Eqo fwM_X1_readEntry R.2.2.2.2 M1 := by
  unfold fX1_readEntry at h
  obtain ⟨r1, -, h⟩ := wb_b h
  rcases fr_i h with h | h
  · obtain ⟨r2, -, h⟩ := wb_b h
    rcases fr_i h with h | h
    · obtain ⟨r3, -, h⟩ := wb_b h
      rcases fr_i h with h | h
      · obtain ⟨r5, e_r5, h⟩ := wb_b h
        have a1 := fr_fX9_refuse e_r5
        have fI_r5 := a1.1.tr (W := fwI_X1_readEntry) (by decide) (Eqo.refl fwI_X1_readEntry I1)
        have fM_r5 := a1.2.tr (W := fwM_X1_readEntry) (by decide) (Eqo.refl fwM_X1_readEntry M1)
        rcases fr_i h with h | h
        · have h := Option.some.inj h
          subst h
          exact ⟨fI_r5, fM_r5⟩
        · cases h
      · obtain ⟨r4, e_r4, h⟩ := wb_b h
        have a2 := fr_fX1_readDegree e_r4
        have fI_r4 := a2.1.tr (W := fwI_X1_readEntry) (by decide) (Eqo.refl fwI_X1_readEntry I1)
        have fM_r4 := a2.2.tr (W := fwM_X1_readEntry) (by decide) (Eqo.refl fwM_X1_readEntry M1)
        rcases fr_i h with h | h
        · have h := Option.some.inj h
          subst h
          exact ⟨fI_r4, fM_r4⟩
        · cases h
    · obtain ⟨r6, e_r6, h⟩ := wb_b h
      have a3 := fr_fX1_readDate e_r6
      have fI_r6 := a3.1.tr (W := fwI_X1_readEntry) (by decide) (Eqo.refl fwI_X1_readEntry I1)
      have fM_r6 := a3.2.tr (W := fwM_X1_readEntry) (by decide) (Eqo.refl fwM_X1_readEntry M1)
      rcases fr_i h with h | h
      · have h := Option.some.inj h
        subst h
        exact ⟨fI_r6, fM_r6⟩
      · cases h
  · obtain ⟨r7, e_r7, h⟩ := wb_b h
    have a4 := fr_fX9_step e_r7
    have fI_r7 := a4.1.tr (W := fwI_X1_readEntry) (by decide) (Eqo.refl fwI_X1_readEntry I1)
    have fM_r7 := a4.2.tr (W := fwM_X1_readEntry) (by decide) (Eqo.refl fwM_X1_readEntry M1)
    obtain ⟨r8, e_r8, h⟩ := wb_b h
    have a5 := fr_fX9_holdsNumber e_r8
    have fI_r8 := a5.1.tr (W := fwI_X1_readEntry) (by decide) fI_r7
    have fM_r8 := a5.2.tr (W := fwM_X1_readEntry) (by decide) fM_r7
    rcases fr_i h with h | h
    · have h := Option.some.inj h
      subst h
      exact ⟨fI_r8, fM_r8⟩
    · obtain ⟨r9b, e_r9b, h⟩ := wb_b h
      have a6 := fr_fX1_readDegree e_r9b
      have fI_r9b := a6.1.tr (W := fwI_X1_readEntry) (by decide) fI_r8
      have fM_r9b := a6.2.tr (W := fwM_X1_readEntry) (by decide) fM_r8
      rcases fr_i h with h | h
      · have h := Option.some.inj h
        subst h
        exact ⟨fI_r9b, fM_r9b⟩
      · have h := Option.some.inj h
        subst h
        exact ⟨fI_r9b, fM_r9b⟩
abbrev fwI_X1_readEntries : List Nat := [2, 3, 4, 5, 6, 7, 8]
abbrev fwM_X1_readEntries : List Nat := []
theorem fr_fX1_readEntries_L10 {N : Nat} : ∀ fu I0_l10 M0_l10 I1_l10 M1_l10 y10_2 R, fX1_readEntries_L10 N fu I0_l10 M0_l10 I1_l10 M1_l10 y10_2 = some R → Eqo fwI_X1_readEntries R.2.2.2.1 I1_l10 ∧ Eqo fwM_X1_readEntries R.2.2.2.2 M1_l10 := by
  intro fu
  induction fu with
  | zero => intro I0_l10 M0_l10 I1_l10 M1_l10 y10_2 R h; cases (show none = some R from h)
  | succ fu ih =>
    intro I0_l10 M0_l10 I1_l10 M1_l10 y10_2 R h
    rw [fX1_readEntries_L10.eq_2] at h
    rcases fr_i h with h | h
    · have h := Option.some.inj h
      subst h
      exact ⟨(Eqo.refl fwI_X1_readEntries I1_l10), (Eqo.refl fwM_X1_readEntries M1_l10)⟩
    · obtain ⟨r3, -, h⟩ := wb_b h
      rcases fr_i h with h | h
      · obtain ⟨r4, e_r4, h⟩ := wb_b h
        have a1 := fr_fX1_readEntry e_r4
        have fI_r4 := a1.1.tr (W := fwI_X1_readEntries) (by decide) (Eqo.refl fwI_X1_readEntries I1_l10)
        have fM_r4 := a1.2.tr (W := fwM_X1_readEntries) (by decide) (Eqo.refl fwM_X1_readEntries M1_l10)
        rcases fr_i h with h | h
        · have h := Option.some.inj h
          subst h
          exact ⟨fI_r4, fM_r4⟩
        · obtain ⟨v5, -, h⟩ := wb_v h
          have a2 := ih _ _ _ _ _ _ h
          exact ⟨a2.1.tr (by decide) fI_r4, a2.2.tr (by decide) fM_r4⟩
      · have h := Option.some.inj h
        subst h
        exact ⟨(Eqo.refl fwI_X1_readEntries I1_l10), (Eqo.refl fwM_X1_readEntries M1_l10)⟩
theorem fr_fX1_readEntries {N : Nat} {I0 : Nat → Int32} {M0 : Nat → Nat → Int32} {I1 : Nat → Int32} {M1 : Nat → Nat → Int32} {R} (h : fX1_readEntries N I0 M0 I1 M1 = some R) : Eqo fwI_X1_readEntries R.2.2.2.1 I1 ∧ Eqo fwM_X1_readEntries R.2.2.2.2 M1 := by
  unfold fX1_readEntries at h
  obtain ⟨r1, -, h⟩ := wb_b h
  obtain ⟨M0_2, -, h⟩ := wb_v h
  have a1 := fr_fX1_readEntries_L10 _ _ _ _ _ _ _ h
  exact ⟨a1.1.tr (by decide) (Eqo.refl fwI_X1_readEntries I1), a1.2.tr (by decide) (Eqo.refl fwM_X1_readEntries M1)⟩
abbrev fwI_X2_readRising : List Nat := [2, 3, 4, 5, 6, 7, 8]
abbrev fwM_X2_readRising : List Nat := []
theorem fr_fX2_readRising_J58 {N : Nat} {g4 : (Nat → Int32) → (Nat → Nat → Int32) → (Nat → Int32) → (Nat → Nat → Int32) → Int32 → Int32 → Option (Int32 × (Nat → Int32) × (Nat → Nat → Int32) × (Nat → Int32) × (Nat → Nat → Int32))} {I0_j58 : Nat → Int32} {M0_j58 : Nat → Nat → Int32} {I1_j58 : Nat → Int32} {M1_j58 : Nat → Nat → Int32} {y58_2 : Int32} {y58_3 : Int32} {z58_0 : Int32} {z58_1 : Int32} (hg4 : ∀ q0 q1 q2 q3 q4 q5 R, g4 q0 q1 q2 q3 q4 q5 = some R → Eqo fwI_X2_readRising R.2.2.2.1 q2 ∧ Eqo fwM_X2_readRising R.2.2.2.2 q3) {R} (h : fX2_readRising_J58 N g4 I0_j58 M0_j58 I1_j58 M1_j58 y58_2 y58_3 z58_0 z58_1 = some R) : Eqo fwI_X2_readRising R.2.2.2.1 I1_j58 ∧ Eqo fwM_X2_readRising R.2.2.2.2 M1_j58 := by
  unfold fX2_readRising_J58 at h
  obtain ⟨r1, e_r1, h⟩ := wb_b h
  have a1 := fr_fX9_takeNumber e_r1
  have fI_r1 := a1.1.tr (W := fwI_X2_readRising) (by decide) (Eqo.refl fwI_X2_readRising I1_j58)
  have fM_r1 := a1.2.tr (W := fwM_X2_readRising) (by decide) (Eqo.refl fwM_X2_readRising M1_j58)
  rcases fr_i h with h | h
  · have h := Option.some.inj h
    subst h
    exact ⟨fI_r1, fM_r1⟩
  · obtain ⟨v2, -, h⟩ := wb_v h
    obtain ⟨-, h⟩ := wb_n h
    obtain ⟨M0_3, -, h⟩ := wb_v h
    obtain ⟨v4, -, h⟩ := wb_v h
    have a2 := hg4 _ _ _ _ _ _ _ h
    exact ⟨a2.1.tr (by decide) fI_r1, a2.2.tr (by decide) fM_r1⟩
theorem fr_fX2_readRising_J46 {N : Nat} {g4 : (Nat → Int32) → (Nat → Nat → Int32) → (Nat → Int32) → (Nat → Nat → Int32) → Int32 → Int32 → Option (Int32 × (Nat → Int32) × (Nat → Nat → Int32) × (Nat → Int32) × (Nat → Nat → Int32))} {I0_j46 : Nat → Int32} {M0_j46 : Nat → Nat → Int32} {I1_j46 : Nat → Int32} {M1_j46 : Nat → Nat → Int32} {y46_2 : Int32} {y46_3 : Int32} {y46_4 : Int32} {y46_5 : Int32} {z46_0 : Int32} (hg4 : ∀ q0 q1 q2 q3 q4 q5 R, g4 q0 q1 q2 q3 q4 q5 = some R → Eqo fwI_X2_readRising R.2.2.2.1 q2 ∧ Eqo fwM_X2_readRising R.2.2.2.2 q3) {R} (h : fX2_readRising_J46 N g4 I0_j46 M0_j46 I1_j46 M1_j46 y46_2 y46_3 y46_4 y46_5 z46_0 = some R) : Eqo fwI_X2_readRising R.2.2.2.1 I1_j46 ∧ Eqo fwM_X2_readRising R.2.2.2.2 M1_j46 := by
  unfold fX2_readRising_J46 at h
  rcases fr_i h with h | h
  · have a1 := fr_fX2_readRising_J58 hg4 h
    exact ⟨a1.1.tr (by decide) (Eqo.refl fwI_X2_readRising I1_j46), a1.2.tr (by decide) (Eqo.refl fwM_X2_readRising M1_j46)⟩
  · have a2 := fr_fX2_readRising_J58 hg4 h
    exact ⟨a2.1.tr (by decide) (Eqo.refl fwI_X2_readRising I1_j46), a2.2.tr (by decide) (Eqo.refl fwM_X2_readRising M1_j46)⟩
theorem fr_fX2_readRising_J28 {N : Nat} {g4 : (Nat → Int32) → (Nat → Nat → Int32) → (Nat → Int32) → (Nat → Nat → Int32) → Int32 → Int32 → Option (Int32 × (Nat → Int32) × (Nat → Nat → Int32) × (Nat → Int32) × (Nat → Nat → Int32))} {I0_j28 : Nat → Int32} {M0_j28 : Nat → Nat → Int32} {I1_j28 : Nat → Int32} {M1_j28 : Nat → Nat → Int32} {y28_2 : Int32} {y28_3 : Int32} {y28_4 : Int32} {z28_0 : Int32} (hg4 : ∀ q0 q1 q2 q3 q4 q5 R, g4 q0 q1 q2 q3 q4 q5 = some R → Eqo fwI_X2_readRising R.2.2.2.1 q2 ∧ Eqo fwM_X2_readRising R.2.2.2.2 q3) {R} (h : fX2_readRising_J28 N g4 I0_j28 M0_j28 I1_j28 M1_j28 y28_2 y28_3 y28_4 z28_0 = some R) : Eqo fwI_X2_readRising R.2.2.2.1 I1_j28 ∧ Eqo fwM_X2_readRising R.2.2.2.2 M1_j28 := by
  unfold fX2_readRising_J28 at h
  rcases fr_i h with h | h
  · have a1 := fr_fX2_readRising_J46 hg4 h
    exact ⟨a1.1.tr (by decide) (Eqo.refl fwI_X2_readRising I1_j28), a1.2.tr (by decide) (Eqo.refl fwM_X2_readRising M1_j28)⟩
  · have a2 := fr_fX2_readRising_J46 hg4 h
    exact ⟨a2.1.tr (by decide) (Eqo.refl fwI_X2_readRising I1_j28), a2.2.tr (by decide) (Eqo.refl fwM_X2_readRising M1_j28)⟩
theorem fr_fX2_readRising_L4 {N : Nat} : ∀ fu I0_l4 M0_l4 I1_l4 M1_l4 y4_2 y4_3 R, fX2_readRising_L4 N fu I0_l4 M0_l4 I1_l4 M1_l4 y4_2 y4_3 = some R → Eqo fwI_X2_readRising R.2.2.2.1 I1_l4 ∧ Eqo fwM_X2_readRising R.2.2.2.2 M1_l4 := by
  intro fu
  induction fu with
  | zero => intro I0_l4 M0_l4 I1_l4 M1_l4 y4_2 y4_3 R h; cases (show none = some R from h)
  | succ fu ih =>
    intro I0_l4 M0_l4 I1_l4 M1_l4 y4_2 y4_3 R h
    rw [fX2_readRising_L4.eq_2] at h
    rcases fr_i h with h | h
    · have h := Option.some.inj h
      subst h
      exact ⟨(Eqo.refl fwI_X2_readRising I1_l4), (Eqo.refl fwM_X2_readRising M1_l4)⟩
    · obtain ⟨v5, -, h⟩ := wb_v h
      rcases fr_i h with h | h
      · have c103 : ∀ q0 q1 q2 q3 q4 q5 R, (fX2_readRising_L4 N fu q0 q1 q2 q3 q4 q5) = some R → Eqo fwI_X2_readRising R.2.2.2.1 q2 ∧ Eqo fwM_X2_readRising R.2.2.2.2 q3 := by
            intro q0 q1 q2 q3 q4 q5 R h
            have a102 := ih _ _ _ _ _ _ _ h
            exact ⟨a102.1.tr (by decide) (Eqo.refl fwI_X2_readRising q2), a102.2.tr (by decide) (Eqo.refl fwM_X2_readRising q3)⟩
        have a1 := fr_fX2_readRising_J28 c103 h
        exact ⟨a1.1.tr (by decide) (Eqo.refl fwI_X2_readRising I1_l4), a1.2.tr (by decide) (Eqo.refl fwM_X2_readRising M1_l4)⟩
      · have c206 : ∀ q0 q1 q2 q3 q4 q5 R, (fX2_readRising_L4 N fu q0 q1 q2 q3 q4 q5) = some R → Eqo fwI_X2_readRising R.2.2.2.1 q2 ∧ Eqo fwM_X2_readRising R.2.2.2.2 q3 := by
            intro q0 q1 q2 q3 q4 q5 R h
            have a205 := ih _ _ _ _ _ _ _ h
            exact ⟨a205.1.tr (by decide) (Eqo.refl fwI_X2_readRising q2), a205.2.tr (by decide) (Eqo.refl fwM_X2_readRising q3)⟩
        have a104 := fr_fX2_readRising_J28 c206 h
        exact ⟨a104.1.tr (by decide) (Eqo.refl fwI_X2_readRising I1_l4), a104.2.tr (by decide) (Eqo.refl fwM_X2_readRising M1_l4)⟩
theorem fr_fX2_readRising {N : Nat} {I0 : Nat → Int32} {M0 : Nat → Nat → Int32} {I1 : Nat → Int32} {M1 : Nat → Nat → Int32} {R} (h : fX2_readRising N I0 M0 I1 M1 = some R) : Eqo fwI_X2_readRising R.2.2.2.1 I1 ∧ Eqo fwM_X2_readRising R.2.2.2.2 M1 := by
  unfold fX2_readRising at h
  have a1 := fr_fX2_readRising_L4 _ _ _ _ _ _ _ _ h
  exact ⟨a1.1.tr (by decide) (Eqo.refl fwI_X2_readRising I1), a1.2.tr (by decide) (Eqo.refl fwM_X2_readRising M1)⟩
abbrev fwI_X2_readClimate : List Nat := [2, 3, 4, 5, 6, 7, 8]
abbrev fwM_X2_readClimate : List Nat := []
theorem fr_fX2_readClimate {N : Nat} {I0 : Nat → Int32} {M0 : Nat → Nat → Int32} {I1 : Nat → Int32} {M1 : Nat → Nat → Int32} {R} (h : fX2_readClimate N I0 M0 I1 M1 = some R) : Eqo fwI_X2_readClimate R.2.2.2.1 I1 ∧ Eqo fwM_X2_readClimate R.2.2.2.2 M1 := by
  unfold fX2_readClimate at h
  rcases fr_i h with h | h
  · obtain ⟨r1, e_r1, h⟩ := wb_b h
    have a1 := fr_fX9_step e_r1
    have fI_r1 := a1.1.tr (W := fwI_X2_readClimate) (by decide) (Eqo.refl fwI_X2_readClimate I1)
    have fM_r1 := a1.2.tr (W := fwM_X2_readClimate) (by decide) (Eqo.refl fwM_X2_readClimate M1)
    obtain ⟨r2, e_r2, h⟩ := wb_b h
    have a2 := fr_fX9_takeNumber e_r2
    have fI_r2 := a2.1.tr (W := fwI_X2_readClimate) (by decide) fI_r1
    have fM_r2 := a2.2.tr (W := fwM_X2_readClimate) (by decide) fM_r1
    rcases fr_i h with h | h
    · have h := Option.some.inj h
      subst h
      exact ⟨fI_r2, fM_r2⟩
    · obtain ⟨r3, e_r3, h⟩ := wb_b h
      have a3 := fr_fX2_readRising e_r3
      have fI_r3 := a3.1.tr (W := fwI_X2_readClimate) (by decide) fI_r2
      have fM_r3 := a3.2.tr (W := fwM_X2_readClimate) (by decide) fM_r2
      rcases fr_i h with h | h
      · have h := Option.some.inj h
        subst h
        exact ⟨fI_r3, fM_r3⟩
      · obtain ⟨I0_4, -, h⟩ := wb_v h
        obtain ⟨r5, e_r5, h⟩ := wb_b h
        have a4 := fr_fX9_takeStop e_r5
        have fI_r5 := a4.1.tr (W := fwI_X2_readClimate) (by decide) fI_r3
        have fM_r5 := a4.2.tr (W := fwM_X2_readClimate) (by decide) fM_r3
        rcases fr_i h with h | h
        · have h := Option.some.inj h
          subst h
          exact ⟨fI_r5, fM_r5⟩
        · cases h
  · obtain ⟨r6, e_r6, h⟩ := wb_b h
    have a5 := fr_fX9_refuse e_r6
    have fI_r6 := a5.1.tr (W := fwI_X2_readClimate) (by decide) (Eqo.refl fwI_X2_readClimate I1)
    have fM_r6 := a5.2.tr (W := fwM_X2_readClimate) (by decide) (Eqo.refl fwM_X2_readClimate M1)
    rcases fr_i h with h | h
    · have h := Option.some.inj h
      subst h
      exact ⟨fI_r6, fM_r6⟩
    · cases h
abbrev fwI_X9_takeWord : List Nat := [2, 3, 4, 5, 7, 8]
abbrev fwM_X9_takeWord : List Nat := []
theorem fr_fX9_takeWord {N : Nat} {I0 : Nat → Int32} {M0 : Nat → Nat → Int32} {w1 : Nat} {R} (h : fX9_takeWord N I0 M0 w1 = some R) : Eqo fwI_X9_takeWord R.2.1 I0 ∧ Eqo fwM_X9_takeWord R.2.2 M0 := by
  unfold fX9_takeWord at h
  obtain ⟨r1, -, h⟩ := wb_b h
  rcases fr_i h with h | h
  · obtain ⟨r3, e_r3, h⟩ := wb_b h
    have a1 := fr_fX9_refuse e_r3
    have fI_r3 := a1.1.tr (W := fwI_X9_takeWord) (by decide) (Eqo.refl fwI_X9_takeWord I0)
    have fM_r3 := a1.2.tr (W := fwM_X9_takeWord) (by decide) (Eqo.refl fwM_X9_takeWord M0)
    rcases fr_i h with h | h
    · have h := Option.some.inj h
      subst h
      exact ⟨fI_r3, fM_r3⟩
    · cases h
  · obtain ⟨r2, e_r2, h⟩ := wb_b h
    have a2 := fr_fX9_step e_r2
    have fI_r2 := a2.1.tr (W := fwI_X9_takeWord) (by decide) (Eqo.refl fwI_X9_takeWord I0)
    have fM_r2 := a2.2.tr (W := fwM_X9_takeWord) (by decide) (Eqo.refl fwM_X9_takeWord M0)
    have h := Option.some.inj h
    subst h
    exact ⟨fI_r2, fM_r2⟩
abbrev fwI_X4_readHand : List Nat := [2, 3, 4, 5, 6, 7, 8]
abbrev fwM_X4_readHand : List Nat := []
theorem fr_fX4_readHand {N : Nat} {I0 : Nat → Int32} {M0 : Nat → Nat → Int32} {I1 : Nat → Int32} {M1 : Nat → Nat → Int32} {R} (h : fX4_readHand N I0 M0 I1 M1 = some R) : Eqo fwI_X4_readHand R.2.2.2.1 I1 ∧ Eqo fwM_X4_readHand R.2.2.2.2 M1 := by
  unfold fX4_readHand at h
  rcases fr_i h with h | h
  · obtain ⟨r1, e_r1, h⟩ := wb_b h
    have a1 := fr_fX9_step e_r1
    have fI_r1 := a1.1.tr (W := fwI_X4_readHand) (by decide) (Eqo.refl fwI_X4_readHand I1)
    have fM_r1 := a1.2.tr (W := fwM_X4_readHand) (by decide) (Eqo.refl fwM_X4_readHand M1)
    obtain ⟨r2, e_r2, h⟩ := wb_b h
    have a2 := fr_fX9_takeNumber e_r2
    have fI_r2 := a2.1.tr (W := fwI_X4_readHand) (by decide) fI_r1
    have fM_r2 := a2.2.tr (W := fwM_X4_readHand) (by decide) fM_r1
    rcases fr_i h with h | h
    · have h := Option.some.inj h
      subst h
      exact ⟨fI_r2, fM_r2⟩
    · obtain ⟨v3, -, h⟩ := wb_v h
      obtain ⟨r4, e_r4, h⟩ := wb_b h
      have a3 := fr_fX9_takeWord e_r4
      have fI_r4 := a3.1.tr (W := fwI_X4_readHand) (by decide) fI_r2
      have fM_r4 := a3.2.tr (W := fwM_X4_readHand) (by decide) fM_r2
      rcases fr_i h with h | h
      · have h := Option.some.inj h
        subst h
        exact ⟨fI_r4, fM_r4⟩
      · obtain ⟨r5, e_r5, h⟩ := wb_b h
        have a4 := fr_fX9_takeNumber e_r5
        have fI_r5 := a4.1.tr (W := fwI_X4_readHand) (by decide) fI_r4
        have fM_r5 := a4.2.tr (W := fwM_X4_readHand) (by decide) fM_r4
        rcases fr_i h with h | h
        · have h := Option.some.inj h
          subst h
          exact ⟨fI_r5, fM_r5⟩
        · obtain ⟨-, h⟩ := wb_n h
          obtain ⟨-, h⟩ := wb_n h
          obtain ⟨M0_6, -, h⟩ := wb_v h
          obtain ⟨I0_7, -, h⟩ := wb_v h
          obtain ⟨r8, e_r8, h⟩ := wb_b h
          have a5 := fr_fX9_takeStop e_r8
          have fI_r8 := a5.1.tr (W := fwI_X4_readHand) (by decide) fI_r5
          have fM_r8 := a5.2.tr (W := fwM_X4_readHand) (by decide) fM_r5
          rcases fr_i h with h | h
          · have h := Option.some.inj h
            subst h
            exact ⟨fI_r8, fM_r8⟩
          · cases h
  · obtain ⟨r9b, e_r9b, h⟩ := wb_b h
    have a6 := fr_fX9_refuse e_r9b
    have fI_r9b := a6.1.tr (W := fwI_X4_readHand) (by decide) (Eqo.refl fwI_X4_readHand I1)
    have fM_r9b := a6.2.tr (W := fwM_X4_readHand) (by decide) (Eqo.refl fwM_X4_readHand M1)
    rcases fr_i h with h | h
    · have h := Option.some.inj h
      subst h
      exact ⟨fI_r9b, fM_r9b⟩
    · cases h
abbrev fwI_X5_readTable : List Nat := [2, 3, 4, 5, 6, 7, 8]
abbrev fwM_X5_readTable : List Nat := []
theorem fr_fX5_readTable {N : Nat} {I0 : Nat → Int32} {M0 : Nat → Nat → Int32} {I1 : Nat → Int32} {M1 : Nat → Nat → Int32} {x2 : Int32} {R} (h : fX5_readTable N I0 M0 I1 M1 x2 = some R) : Eqo fwI_X5_readTable R.2.2.2.1 I1 ∧ Eqo fwM_X5_readTable R.2.2.2.2 M1 := by
  unfold fX5_readTable at h
  obtain ⟨r1, e_r1, h⟩ := wb_b h
  have a1 := fr_fX9_takeWord e_r1
  have fI_r1 := a1.1.tr (W := fwI_X5_readTable) (by decide) (Eqo.refl fwI_X5_readTable I1)
  have fM_r1 := a1.2.tr (W := fwM_X5_readTable) (by decide) (Eqo.refl fwM_X5_readTable M1)
  rcases fr_i h with h | h
  · have h := Option.some.inj h
    subst h
    exact ⟨fI_r1, fM_r1⟩
  · obtain ⟨r2, e_r2, h⟩ := wb_b h
    have a2 := fr_fX9_takeNumber e_r2
    have fI_r2 := a2.1.tr (W := fwI_X5_readTable) (by decide) fI_r1
    have fM_r2 := a2.2.tr (W := fwM_X5_readTable) (by decide) fM_r1
    rcases fr_i h with h | h
    · have h := Option.some.inj h
      subst h
      exact ⟨fI_r2, fM_r2⟩
    · obtain ⟨-, h⟩ := wb_n h
      obtain ⟨M0_3, -, h⟩ := wb_v h
      obtain ⟨r4, e_r4, h⟩ := wb_b h
      have a3 := fr_fX9_takeWord e_r4
      have fI_r4 := a3.1.tr (W := fwI_X5_readTable) (by decide) fI_r2
      have fM_r4 := a3.2.tr (W := fwM_X5_readTable) (by decide) fM_r2
      rcases fr_i h with h | h
      · have h := Option.some.inj h
        subst h
        exact ⟨fI_r4, fM_r4⟩
      · obtain ⟨r5, e_r5, h⟩ := wb_b h
        have a4 := fr_fX9_takeNumber e_r5
        have fI_r5 := a4.1.tr (W := fwI_X5_readTable) (by decide) fI_r4
        have fM_r5 := a4.2.tr (W := fwM_X5_readTable) (by decide) fM_r4
        rcases fr_i h with h | h
        · have h := Option.some.inj h
          subst h
          exact ⟨fI_r5, fM_r5⟩
        · obtain ⟨-, h⟩ := wb_n h
          obtain ⟨M0_6, -, h⟩ := wb_v h
          obtain ⟨-, h⟩ := wb_n h
          obtain ⟨M0_7, -, h⟩ := wb_v h
          obtain ⟨-, h⟩ := wb_n h
          obtain ⟨M0_8, -, h⟩ := wb_v h
          obtain ⟨r9b, -, h⟩ := wb_b h
          rcases fr_i h with h | h
          · have h := Option.some.inj h
            subst h
            exact ⟨fI_r5, fM_r5⟩
          · obtain ⟨r10, e_r10, h⟩ := wb_b h
            have a5 := fr_fX9_step e_r10
            have fI_r10 := a5.1.tr (W := fwI_X5_readTable) (by decide) fI_r5
            have fM_r10 := a5.2.tr (W := fwM_X5_readTable) (by decide) fM_r5
            obtain ⟨r11, e_r11, h⟩ := wb_b h
            have a6 := fr_fX9_takeNumber e_r11
            have fI_r11 := a6.1.tr (W := fwI_X5_readTable) (by decide) fI_r10
            have fM_r11 := a6.2.tr (W := fwM_X5_readTable) (by decide) fM_r10
            rcases fr_i h with h | h
            · have h := Option.some.inj h
              subst h
              exact ⟨fI_r11, fM_r11⟩
            · obtain ⟨-, h⟩ := wb_n h
              obtain ⟨M0_12, -, h⟩ := wb_v h
              obtain ⟨r13, e_r13, h⟩ := wb_b h
              have a7 := fr_fX9_takeWord e_r13
              have fI_r13 := a7.1.tr (W := fwI_X5_readTable) (by decide) fI_r11
              have fM_r13 := a7.2.tr (W := fwM_X5_readTable) (by decide) fM_r11
              rcases fr_i h with h | h
              · have h := Option.some.inj h
                subst h
                exact ⟨fI_r13, fM_r13⟩
              · obtain ⟨r14, e_r14, h⟩ := wb_b h
                have a8 := fr_fX9_takeNumber e_r14
                have fI_r14 := a8.1.tr (W := fwI_X5_readTable) (by decide) fI_r13
                have fM_r14 := a8.2.tr (W := fwM_X5_readTable) (by decide) fM_r13
                rcases fr_i h with h | h
                · have h := Option.some.inj h
                  subst h
                  exact ⟨fI_r14, fM_r14⟩
                · obtain ⟨-, h⟩ := wb_n h
                  obtain ⟨M0_15, -, h⟩ := wb_v h
                  have h := Option.some.inj h
                  subst h
                  exact ⟨fI_r14, fM_r14⟩
abbrev fwI_X5_readSet : List Nat := [2, 3, 4, 5, 6, 7, 8]
abbrev fwM_X5_readSet : List Nat := []
theorem fr_fX5_readSet {N : Nat} {I0 : Nat → Int32} {M0 : Nat → Nat → Int32} {I1 : Nat → Int32} {M1 : Nat → Nat → Int32} {R} (h : fX5_readSet N I0 M0 I1 M1 = some R) : Eqo fwI_X5_readSet R.2.2.2.1 I1 ∧ Eqo fwM_X5_readSet R.2.2.2.2 M1 := by
  unfold fX5_readSet at h
  obtain ⟨r1, e_r1, h⟩ := wb_b h
  have a1 := fr_fX9_step e_r1
  have fI_r1 := a1.1.tr (W := fwI_X5_readSet) (by decide) (Eqo.refl fwI_X5_readSet I1)
  have fM_r1 := a1.2.tr (W := fwM_X5_readSet) (by decide) (Eqo.refl fwM_X5_readSet M1)
  obtain ⟨r2, e_r2, h⟩ := wb_b h
  have a2 := fr_fX9_takeNumber e_r2
  have fI_r2 := a2.1.tr (W := fwI_X5_readSet) (by decide) fI_r1
  have fM_r2 := a2.2.tr (W := fwM_X5_readSet) (by decide) fM_r1
  rcases fr_i h with h | h
  · have h := Option.some.inj h
    subst h
    exact ⟨fI_r2, fM_r2⟩
  · obtain ⟨v3, -, h⟩ := wb_v h
    obtain ⟨r4, -, h⟩ := wb_b h
    rcases fr_i h with h | h
    · obtain ⟨r8, e_r8, h⟩ := wb_b h
      have a3 := fr_fX9_refuse e_r8
      have fI_r8 := a3.1.tr (W := fwI_X5_readSet) (by decide) fI_r2
      have fM_r8 := a3.2.tr (W := fwM_X5_readSet) (by decide) fM_r2
      rcases fr_i h with h | h
      · have h := Option.some.inj h
        subst h
        exact ⟨fI_r8, fM_r8⟩
      · cases h
    · obtain ⟨r5, e_r5, h⟩ := wb_b h
      have a4 := fr_fX9_step e_r5
      have fI_r5 := a4.1.tr (W := fwI_X5_readSet) (by decide) fI_r2
      have fM_r5 := a4.2.tr (W := fwM_X5_readSet) (by decide) fM_r2
      obtain ⟨r6, e_r6, h⟩ := wb_b h
      have a5 := fr_fX5_readTable e_r6
      have fI_r6 := a5.1.tr (W := fwI_X5_readSet) (by decide) fI_r5
      have fM_r6 := a5.2.tr (W := fwM_X5_readSet) (by decide) fM_r5
      rcases fr_i h with h | h
      · have h := Option.some.inj h
        subst h
        exact ⟨fI_r6, fM_r6⟩
      · obtain ⟨r7, e_r7, h⟩ := wb_b h
        have a6 := fr_fX9_takeStop e_r7
        have fI_r7 := a6.1.tr (W := fwI_X5_readSet) (by decide) fI_r6
        have fM_r7 := a6.2.tr (W := fwM_X5_readSet) (by decide) fM_r6
        rcases fr_i h with h | h
        · have h := Option.some.inj h
          subst h
          exact ⟨fI_r7, fM_r7⟩
        · have h := Option.some.inj h
          subst h
          exact ⟨fI_r7, fM_r7⟩
abbrev fwI_X5_readLines : List Nat := [2, 3, 4, 5, 6, 7, 8]
abbrev fwM_X5_readLines : List Nat := []
theorem fr_fX5_readLines_L4 {N : Nat} : ∀ fu I0_l4 M0_l4 I1_l4 M1_l4 y4_2 y4_3 R, fX5_readLines_L4 N fu I0_l4 M0_l4 I1_l4 M1_l4 y4_2 y4_3 = some R → Eqo fwI_X5_readLines R.2.2.2.1 I1_l4 ∧ Eqo fwM_X5_readLines R.2.2.2.2 M1_l4 := by
  intro fu
  induction fu with
  | zero => intro I0_l4 M0_l4 I1_l4 M1_l4 y4_2 y4_3 R h; cases (show none = some R from h)
  | succ fu ih =>
    intro I0_l4 M0_l4 I1_l4 M1_l4 y4_2 y4_3 R h
    rw [fX5_readLines_L4.eq_2] at h
    rcases fr_i h with h | h
    · rcases fr_i h with h | h
      · have h := Option.some.inj h
        subst h
        exact ⟨(Eqo.refl fwI_X5_readLines I1_l4), (Eqo.refl fwM_X5_readLines M1_l4)⟩
      · cases h
    · rcases fr_i h with h | h
      · rcases fr_i h with h | h
        · have h := Option.some.inj h
          subst h
          exact ⟨(Eqo.refl fwI_X5_readLines I1_l4), (Eqo.refl fwM_X5_readLines M1_l4)⟩
        · cases h
      · obtain ⟨r1, -, h⟩ := wb_b h
        rcases fr_i h with h | h
        · obtain ⟨r2, -, h⟩ := wb_b h
          rcases fr_i h with h | h
          · obtain ⟨r3, -, h⟩ := wb_b h
            rcases fr_i h with h | h
            · obtain ⟨r4, -, h⟩ := wb_b h
              rcases fr_i h with h | h
              · obtain ⟨r5, e_r5, h⟩ := wb_b h
                have a1 := fr_fX9_refuse e_r5
                have fI_r5 := a1.1.tr (W := fwI_X5_readLines) (by decide) (Eqo.refl fwI_X5_readLines I1_l4)
                have fM_r5 := a1.2.tr (W := fwM_X5_readLines) (by decide) (Eqo.refl fwM_X5_readLines M1_l4)
                obtain ⟨v6, -, h⟩ := wb_v h
                obtain ⟨v7, -, h⟩ := wb_v h
                have a2 := ih _ _ _ _ _ _ _ h
                exact ⟨a2.1.tr (by decide) fI_r5, a2.2.tr (by decide) fM_r5⟩
              · obtain ⟨r8, e_r8, h⟩ := wb_b h
                have a3 := fr_fX4_readHand e_r8
                have fI_r8 := a3.1.tr (W := fwI_X5_readLines) (by decide) (Eqo.refl fwI_X5_readLines I1_l4)
                have fM_r8 := a3.2.tr (W := fwM_X5_readLines) (by decide) (Eqo.refl fwM_X5_readLines M1_l4)
                obtain ⟨I0_9, -, h⟩ := wb_v h
                obtain ⟨M0_10, -, h⟩ := wb_v h
                obtain ⟨v11, -, h⟩ := wb_v h
                obtain ⟨v12, -, h⟩ := wb_v h
                have a4 := ih _ _ _ _ _ _ _ h
                exact ⟨a4.1.tr (by decide) fI_r8, a4.2.tr (by decide) fM_r8⟩
            · obtain ⟨r13, e_r13, h⟩ := wb_b h
              have a5 := fr_fX2_readClimate e_r13
              have fI_r13 := a5.1.tr (W := fwI_X5_readLines) (by decide) (Eqo.refl fwI_X5_readLines I1_l4)
              have fM_r13 := a5.2.tr (W := fwM_X5_readLines) (by decide) (Eqo.refl fwM_X5_readLines M1_l4)
              obtain ⟨I0_14, -, h⟩ := wb_v h
              obtain ⟨M0_15, -, h⟩ := wb_v h
              obtain ⟨v16, -, h⟩ := wb_v h
              obtain ⟨v17, -, h⟩ := wb_v h
              have a6 := ih _ _ _ _ _ _ _ h
              exact ⟨a6.1.tr (by decide) fI_r13, a6.2.tr (by decide) fM_r13⟩
          · obtain ⟨r18, e_r18, h⟩ := wb_b h
            have a7 := fr_fX5_readSet e_r18
            have fI_r18 := a7.1.tr (W := fwI_X5_readLines) (by decide) (Eqo.refl fwI_X5_readLines I1_l4)
            have fM_r18 := a7.2.tr (W := fwM_X5_readLines) (by decide) (Eqo.refl fwM_X5_readLines M1_l4)
            obtain ⟨v19, -, h⟩ := wb_v h
            obtain ⟨v20, -, h⟩ := wb_v h
            have a8 := ih _ _ _ _ _ _ _ h
            exact ⟨a8.1.tr (by decide) fI_r18, a8.2.tr (by decide) fM_r18⟩
        · rcases fr_i h with h | h
          · have h := Option.some.inj h
            subst h
            exact ⟨(Eqo.refl fwI_X5_readLines I1_l4), (Eqo.refl fwM_X5_readLines M1_l4)⟩
          · cases h
theorem fr_fX5_readLines {N : Nat} {I0 : Nat → Int32} {M0 : Nat → Nat → Int32} {I1 : Nat → Int32} {M1 : Nat → Nat → Int32} {R} (h : fX5_readLines N I0 M0 I1 M1 = some R) : Eqo fwI_X5_readLines R.2.2.2.1 I1 ∧ Eqo fwM_X5_readLines R.2.2.2.2 M1 := by
  unfold fX5_readLines at h
  have a1 := fr_fX5_readLines_L4 _ _ _ _ _ _ _ _ h
  exact ⟨a1.1.tr (by decide) (Eqo.refl fwI_X5_readLines I1), a1.2.tr (by decide) (Eqo.refl fwM_X5_readLines M1)⟩
/-! bits: starting text of the kit (laws/BITS.to-paste) -/
def bt (x : Int32) (i : Nat) : Bool := x.toBitVec.getLsbD i
theorem b_or (x y : Int32) (i : Nat) : bt (x ||| y) i = (bt x i || bt y i) := by unfold bt; rw [Int32.toBitVec_or, BitVec.getLsbD_or]
theorem b_0 (i : Nat) : bt 0 i = false := BitVec.getLsbD_zero
theorem s_l : ∀ n, n < 32 → ((nI n &&& 31).toBitVec.smod 32).toNat = n := by decide +kernel
theorem b_shl (n : Nat) (hn : n < 32) (x : Int32) {i : Nat} (hi : i < 32) : bt (x <<< (nI n &&& 31)) i = (decide (n ≤ i) && bt x (i - n)) := by
  unfold bt
  rw [Int32.toBitVec_shiftLeft]
  show (x.toBitVec <<< ((nI n &&& 31).toBitVec.smod 32).toNat).getLsbD i = _
  rw [s_l n hn, BitVec.getLsbD_shiftLeft]
  rcases Nat.lt_or_ge i n with h | h
  · simp [h, Nat.not_le.mpr h]
  · simp [hi, h, Nat.not_lt.mpr h]
/-! class and reference side by side: bytes and tokens -/
theorem ifr {c : Prop} [Decidable c] {α : Type} {A B : Option α} {R : α} (h : (if c then A else B) = some R) : (c ∧ A = some R) ∨ (¬ c ∧ B = some R) := by
  by_cases hc : c
  · rw [if_pos hc] at h; exact Or.inl ⟨hc, h⟩
  · rw [if_neg hc] at h; exact Or.inr ⟨hc, h⟩
theorem t32 {a b : Int32} (h : a.toInt = b.toInt) : a = b := Int32.toInt_inj.mp h
theorem lt32 {a b : Int32} {x y : Int} (ha : a.toInt = x) (hb : b.toInt = y) : a < b ↔ x < y := by rw [← ha, ← hb]; exact Int32.lt_iff_toInt_lt
theorem le32 {a b : Int32} {x y : Int} (ha : a.toInt = x) (hb : b.toInt = y) : a ≤ b ↔ x ≤ y := by rw [← ha, ← hb]; exact Int32.le_iff_toInt_le
theorem eq32 {a b : Int32} {x y : Int} (ha : a.toInt = x) (hb : b.toInt = y) : a = b ↔ x = y := by rw [← ha, ← hb]; exact Int32.toInt_inj.symm
theorem cl32 (x : Int32) : x.toNatClampNeg = x.toInt.toNat := rfl
theorem and255 (x : Int32) : (x &&& 255).toInt = x.toInt % 256 := by
  have h : (x &&& 255).toBitVec.toNat = x.toBitVec.toNat % 256 := by
    rw [Int32.toBitVec_and]
    show (x.toBitVec &&& 255#32).toNat = _
    rw [BitVec.toNat_and]
    exact Nat.and_two_pow_sub_one_eq_mod _ 8
  show (x &&& 255).toBitVec.toInt = x.toBitVec.toInt % 256
  rw [BitVec.toInt_eq_toNat_cond, BitVec.toInt_eq_toNat_cond, h]
  have := x.toBitVec.isLt
  split <;> split <;> omega
theorem byte8 (x : Int32) : x.toInt8.toInt32.toInt = Int.bmod x.toInt 256 := by
  rw [Int8.toInt_toInt32, Int32.toInt_toInt8]
def BR (a b : Int32) : Prop := (0 ≤ a.toInt ∧ a.toInt ≤ 127 ∧ b.toInt = a.toInt) ∨ (-128 ≤ a.toInt ∧ a.toInt < 0 ∧ b.toInt = a.toInt + 256)
theorem BR_of (x : Int32) : BR (vp_nar .byte x.toInt8.toInt32) (x &&& 255) := by
  have e : vp_nar .byte x.toInt8.toInt32 = x.toInt8.toInt32 := by
    rw [show vp_nar .byte x.toInt8.toInt32 = x.toInt8.toInt32.toInt8.toInt32 from rfl]
    apply t32
    rw [byte8, byte8]
    simp only [Int.bmod_bmod]
  rw [e]
  unfold BR
  rw [byte8, and255]
  have h := @Int.bmod_def x.toInt 256
  have h0 := Int.emod_nonneg x.toInt (by omega : (256 : Int) ≠ 0)
  have h1 := Int.emod_lt_of_pos x.toInt (by omega : (0 : Int) < 256)
  rw [h]
  split <;> omega
theorem BR.same {a b : Int32} (h : BR a b) (hb : b.toInt ≤ 127) : a = b := t32 (by unfold BR at h; omega)
theorem BR.rg {a b : Int32} (h : BR a b) (lo hi : Int) (h0 : 0 ≤ lo) (h1 : hi ≤ 127) : (lo ≤ a.toInt ∧ a.toInt ≤ hi) ↔ (lo ≤ b.toInt ∧ b.toInt ≤ hi) := by
  unfold BR at h; constructor <;> (intro q; omega)
theorem BR.eq {a b : Int32} (h : BR a b) {c : Int32} (h0 : 0 ≤ c.toInt) (h1 : c.toInt ≤ 127) : a = c ↔ b = c := by
  rw [eq32 (a := a) (b := c) rfl rfl, eq32 (a := b) (b := c) rfl rfl]
  unfold BR at h; constructor <;> (intro q; omega)
def cL (x : Int32) : Prop := 97 ≤ x.toInt ∧ x.toInt ≤ 122
def cD (x : Int32) : Prop := 48 ≤ x.toInt ∧ x.toInt ≤ 57
theorem let9 {N : Nat} {x r : Int32} (h : fX9_isLetter N x = some r) : (r = 0 ∧ ¬ cL x) ∨ (r = 1 ∧ cL x) := by
  unfold fX9_isLetter at h
  unfold cL
  rcases ifr h with ⟨c, h⟩ | ⟨c, h⟩
  · have c := (lt32 (y := 97) rfl (by decide)).mp c
    exact Or.inl ⟨(Option.some.inj h).symm, by omega⟩
  · have c : ¬ _ := fun q => c ((lt32 (y := 97) rfl (by decide)).mpr q)
    rcases ifr h with ⟨d, h⟩ | ⟨d, h⟩
    · have d := (lt32 (x := 122) (by decide) rfl).mp d
      exact Or.inl ⟨(Option.some.inj h).symm, by omega⟩
    · have d : ¬ _ := fun q => d ((lt32 (x := 122) (by decide) rfl).mpr q)
      exact Or.inr ⟨(Option.some.inj h).symm, by omega⟩
theorem dig9 {N : Nat} {x r : Int32} (h : fX9_isDigit N x = some r) : (r = 0 ∧ ¬ cD x) ∨ (r = 1 ∧ cD x) := by
  unfold fX9_isDigit at h
  unfold cD
  rcases ifr h with ⟨c, h⟩ | ⟨c, h⟩
  · have c := (lt32 (y := 48) rfl (by decide)).mp c
    exact Or.inl ⟨(Option.some.inj h).symm, by omega⟩
  · have c : ¬ _ := fun q => c ((lt32 (y := 48) rfl (by decide)).mpr q)
    rcases ifr h with ⟨d, h⟩ | ⟨d, h⟩
    · have d := (lt32 (x := 57) (by decide) rfl).mp d
      exact Or.inl ⟨(Option.some.inj h).symm, by omega⟩
    · have d : ¬ _ := fun q => d ((lt32 (x := 57) (by decide) rfl).mpr q)
      exact Or.inr ⟨(Option.some.inj h).symm, by omega⟩
theorem let12 {N : Nat} {x r : Int32} (h : fX12_isLetter N x = some r) : (r = 0 ∧ ¬ cL x) ∨ (r = 1 ∧ cL x) := let9 (N := N) h
theorem dig12 {N : Nat} {x r : Int32} (h : fX12_isDigit N x = some r) : (r = 0 ∧ ¬ cD x) ∨ (r = 1 ∧ cD x) := dig9 (N := N) h
theorem bat {N : Nat} {J : Nat → Int32} {L : Int64} {K : Nat → Nat → Int32} {x r : Int32} (h : fX12_byteAt N J L K x = some r) : ((J 6).toInt ≤ x.toInt ∧ r = 0) ∨ (x.toInt < (J 6).toInt ∧ 0 ≤ x.toInt ∧ r = K 8 x.toInt.toNat) := by
  unfold fX12_byteAt at h
  rcases ifr h with ⟨c, h⟩ | ⟨c, h⟩
  · exact Or.inl ⟨(le32 rfl rfl).mp c, (Option.some.inj h).symm⟩
  · have c : ¬ _ := fun q => c ((le32 rfl rfl).mpr q)
    obtain ⟨d, h⟩ := wb_n h
    have d0 : ¬ x.toInt < 0 := fun q => d (Or.inl ((lt32 rfl (by decide)).mpr q))
    exact Or.inr ⟨by omega, by omega, (Option.some.inj h).symm⟩
def TQ (I J : Nat → Int32) (M K : Nat → Nat → Int32) : Prop := I 1 = J 6 ∧ I 3 = J 7 ∧ 0 ≤ (I 3).toInt ∧ (I 3).toInt ≤ (I 1).toInt ∧ (I 1).toInt ≤ 600 ∧ ∀ j : Nat, (j : Int) < (I 1).toInt → BR (M 0 j) (K 8 j)
def pk (b : Nat → Int) (s : Nat) : Nat → Int
  | 0 => 0
  | n + 1 => 32 * pk b s n + (b (s + n) - 96)
def TW (I : Nat → Int32) (L : Int64) (M : Nat → Nat → Int32) : Prop := (∀ j : Nat, (I 2).toInt ≤ (j : Int) → (j : Int) < (I 3).toInt → cL (M 0 j)) ∧ ((I 3).toInt - (I 2).toInt ≤ 8 → L.toInt = pk (fun j => (M 0 j).toInt) (I 2).toInt.toNat ((I 3).toInt - (I 2).toInt).toNat)
def TK (I J : Nat → Int32) (L : Int64) (M K : Nat → Nat → Int32) : Prop := TQ I J M K ∧ I 2 = J 9 ∧ I 4 = J 8 ∧ 0 ≤ (I 2).toInt ∧ (I 2).toInt ≤ (I 3).toInt ∧ J 10 = J 7 - J 9 ∧ (I 4 = 2 → I 5 = J 11) ∧ (I 4 = 1 → TW I L M)
theorem TQ.adv {I J I' J' : Nat → Int32} {M K : Nat → Nat → Int32} (h : TQ I J M K) (hc : (I 3).toInt < (I 1).toInt) (h1 : I' 1 = I 1) (h3 : I' 3 = I 3 + 1) (j6 : J' 6 = J 6) (j7 : J' 7 = J 7 + 1) : TQ I' J' M K ∧ (I' 3).toInt = (I 3).toInt + 1 := by
  obtain ⟨a1, a2, a3, a4, a5, a6⟩ := h
  have e : (I 3 + 1).toInt = (I 3).toInt + 1 := by
    have := ia_add (I 3) 1 (by rw [show (1 : Int32).toInt = 1 from by decide]; omega) (by rw [show (1 : Int32).toInt = 1 from by decide]; omega)
    rw [this, show (1 : Int32).toInt = 1 from by decide]
  refine ⟨⟨by rw [h1, j6, a1], by rw [h3, j7, a2], ?_, ?_, ?_, ?_⟩, by rw [h3, e]⟩
  · rw [h3, e]; omega
  · rw [h3, e, h1]; omega
  · rw [h1]; exact a5
  · rw [h1]; exact a6
theorem TQ.byte {I J : Nat → Int32} {M K : Nat → Nat → Int32} (h : TQ I J M K) (hc : (I 3).toInt < (I 1).toInt) : BR (M 0 (I 3).toInt.toNat) (K 8 (I 3).toInt.toNat) := by
  obtain ⟨a1, a2, a3, a4, a5, a6⟩ := h
  exact a6 _ (by omega)
theorem lsh5 {L : Int64} {n d : Nat} (hL : L.toInt = (n : Int)) (hn : n < 2 ^ 40) (hd : d < 32) {x : Int32} (hx : x.toInt = (d : Int)) : ((L <<< ((5 : Int32).toInt64 &&& 63)) ||| x.toInt64).toInt = 32 * (n : Int) + (d : Int) := by
  have eL : L = lN n := by
    apply Int64.toInt_inj.mp
    rw [hL]
    exact (Int64.toInt_ofNat_of_lt (by omega)).symm
  have ex : x.toInt64 = lN d := by
    apply Int64.toInt_inj.mp
    rw [Int32.toInt_toInt64, hx]
    exact (Int64.toInt_ofNat_of_lt (by omega)).symm
  have es : L <<< ((5 : Int32).toInt64 &&& 63) = lN (n * 32) := by
    subst eL
    apply Int64.toInt_inj.mp
    have h5 : ((5 : Int32).toInt64 &&& 63) = 5 := by decide
    rw [h5]
    have hb : (lN n <<< (5 : Int64)).toBitVec.toNat = n * 32 := by
      rw [Int64.toBitVec_shiftLeft]
      rw [show (Int64.toBitVec 5).smod 64 = 5#64 from by decide]
      rw [BitVec.shiftLeft_eq', BitVec.toNat_shiftLeft]
      rw [show (lN n).toBitVec.toNat = n % 2 ^ 64 from rfl, show (5#64).toNat = 5 from by decide, Nat.shiftLeft_eq]
      omega
    show (lN n <<< (5 : Int64)).toBitVec.toInt = (lN (n * 32)).toBitVec.toInt
    have hb2 : (lN (n * 32)).toBitVec.toNat = n * 32 := by
      rw [show (lN (n * 32)).toBitVec.toNat = (n * 32) % 2 ^ 64 from rfl]; omega
    rw [BitVec.toInt_eq_toNat_cond, BitVec.toInt_eq_toNat_cond, hb, hb2]
  rw [es, ex]
  have ho : (lN (n * 32) ||| lN d).toBitVec.toNat = n * 32 + d := by
    rw [Int64.toBitVec_or, BitVec.toNat_or]
    rw [show (lN (n * 32)).toBitVec.toNat = (n * 32) % 2 ^ 64 from rfl, show (lN d).toBitVec.toNat = d % 2 ^ 64 from rfl, Nat.mod_eq_of_lt (by omega), Nat.mod_eq_of_lt (by omega)]
    have h := Nat.shiftLeft_add_eq_or_of_lt (a := n) (b := d) (i := 5) hd
    rw [Nat.shiftLeft_eq, show (2 : Nat) ^ 5 = 32 from by decide] at h
    omega
  show (lN (n * 32) ||| lN d).toBitVec.toInt = _
  rw [BitVec.toInt_eq_toNat_cond, ho]
  rw [if_pos (by omega)]
  omega
theorem pk_rg (b : Nat → Int) (s : Nat) : ∀ n, (∀ i, i < n → 97 ≤ b (s + i) ∧ b (s + i) ≤ 122) → 0 ≤ pk b s n ∧ pk b s n < 32 ^ n := by
  intro n
  induction n with
  | zero => intro _; exact ⟨Int.le_refl _, by show (0 : Int) < 32 ^ 0; decide⟩
  | succ n ih =>
    intro h
    have h1 := ih (fun i hi => h i (by omega))
    have h2 := h n (by omega)
    have e : (32 : Int) ^ (n + 1) = 32 * 32 ^ n := by rw [Int.pow_succ, Int.mul_comm]
    show 0 ≤ 32 * pk b s n + (b (s + n) - 96) ∧ 32 * pk b s n + (b (s + n) - 96) < 32 ^ (n + 1)
    rw [e]
    omega
theorem dif32 {a b : Int32} (ha : 0 ≤ a.toInt) (hb : 0 ≤ b.toInt) : (a - b).toInt = a.toInt - b.toInt := by
  have h1 := Int32.toInt_lt a
  have h2 := Int32.toInt_lt b
  exact ia_sub a b (by omega) (by omega)
theorem lp_let {N N2 : Nat} {M K : Nat → Nat → Int32} : ∀ (fu fv : Nat) (I J : Nat → Int32) (L : Int64) R S, fX9_step_L86 N fu I M = some R → fX12_steps_L103 N2 fv J L K = some S → TQ I J M K → I 2 = J 9 → 0 ≤ (I 2).toInt → (I 2).toInt ≤ (I 3).toInt → I 4 = 1 → TW I L M → TK R.1 S.1 S.2.1 M K := by
  intro fu
  induction fu with
  | zero => intro fv I J L R S h; cases (show none = some R from h)
  | succ fu ih =>
    intro fv I J L R S h g q e2 h0 h1 h4 w
    cases fv with
    | zero => cases (show none = some S from g)
    | succ fv =>
      rw [fX9_step_L86.eq_2] at h
      rw [fX12_steps_L103.eq_2] at g
      obtain ⟨r17, e17, g⟩ := wb_b g
      obtain ⟨r18, e18, g⟩ := wb_b g
      have fin : R = (I, M) → r18 = 0 → TK R.1 S.1 S.2.1 M K := by
        intro eR e0
        subst eR
        have g := wb_t e0 g
        obtain ⟨J1, eJ, g⟩ := wb_v g
        unfold fX12_steps_J279 at g
        obtain ⟨J2, eJ2, g⟩ := wb_v g
        have g := Option.some.inj g
        subst g; subst eJ2; subst eJ
        obtain ⟨a1, a2, a3, a4, a5, a6⟩ := q
        refine ⟨⟨a1, a2, a3, a4, a5, a6⟩, e2, h4, h0, h1, rfl, ?_, fun _ => w⟩
        intro q4
        have q4 : I 4 = 2 := q4
        rw [h4] at q4
        exact absurd q4 (by decide)
      have qa := q
      obtain ⟨a1, a2, a3, a4, a5, a6⟩ := qa
      rcases ifr h with ⟨c, h⟩ | ⟨c, h⟩
      · have c := (le32 rfl rfl).mp c
        rcases bat e17 with ⟨b1, b2⟩ | ⟨b1, b2, b3⟩
        · rcases let12 e18 with ⟨b4, b5⟩ | ⟨b4, b5⟩
          · exact fin (Option.some.inj h).symm b4
          · exfalso
            rw [b2] at b5
            exact absurd b5.1 (by decide)
        · exfalso
          rw [← a1, ← a2] at b1
          omega
      · have c : ¬ _ := fun z => c ((le32 rfl rfl).mpr z)
        have hc : (I 3).toInt < (I 1).toInt := by omega
        obtain ⟨-, h⟩ := wb_n h
        obtain ⟨r12, e12, h⟩ := wb_b h
        have B := q.byte hc
        have e17' : r17 = K 8 (I 3).toInt.toNat := by
          rcases bat e17 with ⟨b1, b2⟩ | ⟨b1, b2, b3⟩
          · exfalso
            rw [← a1, ← a2] at b1
            omega
          · rw [b3, ← a2]
        rcases let9 e12 with ⟨b4, b5⟩ | ⟨b4, b5⟩
        · have h := wb_t b4 h
          rcases let12 e18 with ⟨b6, b7⟩ | ⟨b6, b7⟩
          · exact fin (Option.some.inj h).symm b6
          · exfalso
            apply b5
            rw [e17'] at b7
            exact (B.rg 97 122 (by omega) (by omega)).mpr b7
        · have h := wb_f (by rw [b4]; decide) h
          rcases let12 e18 with ⟨b6, b7⟩ | ⟨b6, b7⟩
          · exfalso
            apply b7
            rw [e17']
            exact (B.rg 97 122 (by omega) (by omega)).mp b5
          · have g := wb_f (by rw [b6]; decide) g
            obtain ⟨I', eI, h⟩ := wb_v h
            have i2 : I' 2 = I 2 := by rw [eI]; rfl
            have w1 : ∀ j : Nat, (I 2).toInt ≤ (j : Int) → (j : Int) < (I 3).toInt + 1 → cL (M 0 j) := by
              intro j j0 j1
              by_cases hj : (j : Int) < (I 3).toInt
              · exact w.1 j j0 hj
              · have ej : j = (I 3).toInt.toNat := by omega
                rw [ej]; exact b5
            have dd : (J 7 - J 9).toInt = (I 3).toInt - (I 2).toInt := by
              rw [← a2, ← e2]
              exact dif32 a3 h0
            rcases ifr g with ⟨d, g⟩ | ⟨d, g⟩
            · have d := (le32 (x := 8) (by decide) dd).mp d
              obtain ⟨J', eJ, g⟩ := wb_v g
              obtain ⟨q', e'⟩ := q.adv hc (I' := I') (J' := J') (by rw [eI]; rfl) (by rw [eI]; rfl) (by rw [eJ]; rfl) (by rw [eJ]; rfl)
              refine ih fv I' J' L R S h g q' (by rw [i2, eJ]; exact e2) (by rw [i2]; exact h0) (by rw [i2, e']; omega) (by rw [eI]; exact h4) ⟨?_, ?_⟩
              · rw [i2, e']; exact w1
              · rw [i2, e']; intro d2; exfalso; omega
            · have d : ¬ _ := fun z => d ((le32 (x := 8) (by decide) dd).mpr z)
              obtain ⟨r21, e21, g⟩ := wb_b g
              obtain ⟨L', eL, g⟩ := wb_v g
              obtain ⟨J', eJ, g⟩ := wb_v g
              have e21' : r21 = r17 := Option.some.inj (e21.symm.trans e17)
              obtain ⟨q', e'⟩ := q.adv hc (I' := I') (J' := J') (by rw [eI]; rfl) (by rw [eI]; rfl) (by rw [eJ]; rfl) (by rw [eJ]; rfl)
              refine ih fv I' J' L' R S h g q' (by rw [i2, eJ]; exact e2) (by rw [i2]; exact h0) (by rw [i2, e']; omega) (by rw [eI]; exact h4) ⟨?_, ?_⟩
              · rw [i2, e']; exact w1
              · rw [i2, e']
                intro d2
                have ew := w.2 (by omega)
                have en : ((I 3).toInt + 1 - (I 2).toInt).toNat = ((I 3).toInt - (I 2).toInt).toNat + 1 := by omega
                have rg := pk_rg (fun j => (M 0 j).toInt) (I 2).toInt.toNat ((I 3).toInt - (I 2).toInt).toNat (fun i hi => by
                  have := w.1 ((I 2).toInt.toNat + i) (by omega) (by omega)
                  exact this)
                have hp : (32 : Int) ^ ((I 3).toInt - (I 2).toInt).toNat ≤ 32 ^ 8 := by
                  exact (by decide : ∀ k, k < 9 → (32 : Int) ^ k ≤ 32 ^ 8) _ (by omega)
                obtain ⟨n, en2⟩ := Int.eq_ofNat_of_zero_le rg.1
                have b7' : cL r21 := by rw [e21']; exact b7
                have hm : M 0 (I 3).toInt.toNat = r21 := by
                  rw [e21', e17']
                  exact B.same (by rw [← e17']; unfold cL at b7; omega)
                have ed : (r21 - 96).toInt = r21.toInt - 96 := by
                  unfold cL at b7'
                  have := ia_sub r21 96 (by rw [show (96 : Int32).toInt = 96 from by decide]; omega) (by rw [show (96 : Int32).toInt = 96 from by decide]; omega)
                  rw [this, show (96 : Int32).toInt = 96 from by decide]
                have el := lsh5 (L := L) (n := n) (d := (r21.toInt - 96).toNat) (by rw [ew, en2]) (by
                  have : (32 : Int) ^ 8 = 2 ^ 40 := by decide
                  have h9 := rg.2
                  rw [en2] at h9
                  omega) (by unfold cL at b7'; omega) (x := r21 - 96) (by rw [ed]; unfold cL at b7'; omega)
                rw [eL, el, en]
                show _ = 32 * pk _ _ _ + ((M 0 _).toInt - 96)
                rw [en2]
                have es : (I 2).toInt.toNat + ((I 3).toInt - (I 2).toInt).toNat = (I 3).toInt.toNat := by omega
                rw [es, hm]
                unfold cL at b7'
                omega
theorem lp_dig {N N2 : Nat} {M K : Nat → Nat → Int32} : ∀ (fu fv : Nat) (I J : Nat → Int32) (L : Int64) R S, fX9_step_L150 N fu I M = some R → fX12_steps_L182 N2 fv J L K = some S → TQ I J M K → I 2 = J 9 → 0 ≤ (I 2).toInt → (I 2).toInt ≤ (I 3).toInt → I 4 = 2 → I 5 = J 11 → TK R.1 S.1 S.2.1 M K := by
  intro fu
  induction fu with
  | zero => intro fv I J L R S h; cases (show none = some R from h)
  | succ fu ih =>
    intro fv I J L R S h g q e2 h0 h1 h4 w
    cases fv with
    | zero => cases (show none = some S from g)
    | succ fv =>
      rw [fX9_step_L150.eq_2] at h
      rw [fX12_steps_L182.eq_2] at g
      obtain ⟨r17, e17, g⟩ := wb_b g
      obtain ⟨r18, e18, g⟩ := wb_b g
      have fin : R = (I, M) → r18 = 0 → TK R.1 S.1 S.2.1 M K := by
        intro eR e0
        subst eR
        have g := wb_t e0 g
        obtain ⟨J1, eJ, g⟩ := wb_v g
        unfold fX12_steps_J279 at g
        obtain ⟨J2, eJ2, g⟩ := wb_v g
        have g := Option.some.inj g
        subst g; subst eJ2; subst eJ
        obtain ⟨a1, a2, a3, a4, a5, a6⟩ := q
        refine ⟨⟨a1, a2, a3, a4, a5, a6⟩, e2, h4, h0, h1, rfl, fun _ => w, ?_⟩
        intro q4
        have q4 : I 4 = 1 := q4
        rw [h4] at q4
        exact absurd q4 (by decide)
      have qa := q
      obtain ⟨a1, a2, a3, a4, a5, a6⟩ := qa
      rcases ifr h with ⟨c, h⟩ | ⟨c, h⟩
      · have c := (le32 rfl rfl).mp c
        rcases bat e17 with ⟨b1, b2⟩ | ⟨b1, b2, b3⟩
        · rcases dig12 e18 with ⟨b4, b5⟩ | ⟨b4, b5⟩
          · exact fin (Option.some.inj h).symm b4
          · exfalso
            rw [b2] at b5
            exact absurd b5.1 (by decide)
        · exfalso
          rw [← a1, ← a2] at b1
          omega
      · have c : ¬ _ := fun z => c ((le32 rfl rfl).mpr z)
        have hc : (I 3).toInt < (I 1).toInt := by omega
        obtain ⟨-, h⟩ := wb_n h
        obtain ⟨r12, e12, h⟩ := wb_b h
        have B := q.byte hc
        have e17' : r17 = K 8 (I 3).toInt.toNat := by
          rcases bat e17 with ⟨b1, b2⟩ | ⟨b1, b2, b3⟩
          · exfalso
            rw [← a1, ← a2] at b1
            omega
          · rw [b3, ← a2]
        rcases dig9 e12 with ⟨b4, b5⟩ | ⟨b4, b5⟩
        · have h := wb_t b4 h
          rcases dig12 e18 with ⟨b6, b7⟩ | ⟨b6, b7⟩
          · exact fin (Option.some.inj h).symm b6
          · exfalso
            apply b5
            rw [e17'] at b7
            exact (B.rg 48 57 (by omega) (by omega)).mpr b7
        · have h := wb_f (by rw [b4]; decide) h
          rcases dig12 e18 with ⟨b6, b7⟩ | ⟨b6, b7⟩
          · exfalso
            apply b7
            rw [e17']
            exact (B.rg 48 57 (by omega) (by omega)).mp b5
          · have g := wb_f (by rw [b6]; decide) g
            have hm : M 0 (I 3).toInt.toNat = r17 := by
              rw [e17']
              exact B.same (by rw [← e17']; unfold cD at b7; omega)
            have eqd : I 3 - I 2 = J 7 - J 9 := by rw [a2, e2]
            rw [eqd] at h
            rcases ifr h with ⟨d, h⟩ | ⟨d, h⟩
            · have g := wb_t d g
              obtain ⟨J', eJ, g⟩ := wb_v g
              unfold fX9_step_J218 at h
              obtain ⟨I1, eI1, h⟩ := wb_v h
              obtain ⟨I', eI, h⟩ := wb_v h
              rw [eI1] at eI
              have i2 : I' 2 = I 2 := by rw [eI]; rfl
              obtain ⟨q', e'⟩ := q.adv hc (I' := I') (J' := J') (by rw [eI]; rfl) (by rw [eI]; rfl) (by rw [eJ]; rfl) (by rw [eJ]; rfl)
              exact ih fv I' J' L R S h g q' (by rw [i2, eJ]; exact e2) (by rw [i2]; exact h0) (by rw [i2, e']; omega) (by rw [eI]; exact h4) (by rw [eI, eJ]; exact w)
            · have g := wb_f d g
              obtain ⟨r14, e14, g⟩ := wb_b g
              have e14' : r14 = r17 := Option.some.inj (e14.symm.trans e17)
              obtain ⟨J1, eJ1, g⟩ := wb_v g
              obtain ⟨J', eJ, g⟩ := wb_v g
              rw [eJ1] at eJ
              obtain ⟨-, h⟩ := wb_n h
              unfold fX9_step_J218 at h
              obtain ⟨I1, eI1, h⟩ := wb_v h
              obtain ⟨I', eI, h⟩ := wb_v h
              rw [eI1] at eI
              have i2 : I' 2 = I 2 := by rw [eI]; rfl
              obtain ⟨q', e'⟩ := q.adv hc (I' := I') (J' := J') (by rw [eI]; rfl) (by rw [eI]; rfl) (by rw [eJ]; rfl) (by rw [eJ]; rfl)
              refine ih fv I' J' L R S h g q' (by rw [i2, eJ]; exact e2) (by rw [i2]; exact h0) (by rw [i2, e']; omega) (by rw [eI]; exact h4) ?_
              rw [eI, eJ]
              show ((10 : Int32) * (I 5)) + (M 0 (I 3).toNatClampNeg) - 48 = ((10 : Int32) * (J 11)) + r14 - 48
              rw [w, e14', ← hm]
              rfl
theorem blk9 {N : Nat} {x r : Int32} (h : fX9_isBlank N x = some r) : (r = 1 ∧ (x = 32 ∨ x = 10)) ∨ (r = 0 ∧ ¬ x = 32 ∧ ¬ x = 10) := by
  unfold fX9_isBlank at h
  rcases ifr h with ⟨c, h⟩ | ⟨c, h⟩
  · exact Or.inl ⟨(Option.some.inj h).symm, Or.inl c⟩
  · rcases ifr h with ⟨d, h⟩ | ⟨d, h⟩
    · exact Or.inl ⟨(Option.some.inj h).symm, Or.inr d⟩
    · exact Or.inr ⟨(Option.some.inj h).symm, c, d⟩
theorem stj {N N2 : Nat} {M K : Nat → Nat → Int32} {I J : Nat → Int32} {L : Int64} {R : (Nat → Int32) × (Nat → Nat → Int32)} {S : (Nat → Int32) × Int64 × (Nat → Nat → Int32)} (h : fX9_step_J39 N I M = some R) (g : fX12_steps_J50 N2 J L K = some S) (q : TQ I J M K) : TK R.1 S.1 S.2.1 M K := by
  unfold fX9_step_J39 at h
  unfold fX12_steps_J50 at g
  obtain ⟨I3, eI3, h⟩ := wb_v h
  obtain ⟨J3, eJ3, g⟩ := wb_v g
  obtain ⟨L4, eL4, g⟩ := wb_v g
  obtain ⟨J5, eJ5, g⟩ := wb_v g
  rw [eJ3] at eJ5
  obtain ⟨r6, e6, g⟩ := wb_b g
  obtain ⟨a1, a2, a3, a4, a5, a6⟩ := q
  have i1 : I3 1 = I 1 := by rw [eI3]; rfl
  have i2 : I3 2 = I 3 := by rw [eI3]; rfl
  have i3 : I3 3 = I 3 := by rw [eI3]; rfl
  have j6 : J5 6 = J 6 := by rw [eJ5]; rfl
  have j7 : J5 7 = J 7 := by rw [eJ5]; rfl
  have j9 : J5 9 = J 7 := by rw [eJ5]; rfl
  have j11 : J5 11 = 0 := by rw [eJ5]; rfl
  have q : TQ I3 J5 M K := ⟨by rw [i1, j6, a1], by rw [i3, j7, a2], by rw [i3]; exact a3, by rw [i3, i1]; exact a4, by rw [i1]; exact a5, by rw [i1]; exact a6⟩
  have e29 : I3 2 = J5 9 := by rw [i2, j9, a2]
  rcases ifr h with ⟨c, h⟩ | ⟨c, h⟩
  · have hc : (I3 3).toInt < (I3 1).toInt := (lt32 rfl rfl).mp c
    have cg : J5 7 < J5 6 := by rw [j7, j6, ← a1, ← a2, ← i1, ← i3]; exact c
    have g := wb_t cg g
    obtain ⟨-, h⟩ := wb_n h
    have B := q.byte hc
    have e6' : r6 = K 8 (I3 3).toInt.toNat := by
      rcases bat e6 with ⟨b1, b2⟩ | ⟨b1, b2, b3⟩
      · exfalso
        have := (lt32 rfl rfl).mp cg
        omega
      · rw [b3, j7, ← a2, ← i3]
    obtain ⟨r4, e4, h⟩ := wb_b h
    obtain ⟨r7, e7, g⟩ := wb_b g
    rcases let9 e4 with ⟨b4, b5⟩ | ⟨b4, b5⟩
    · have h := wb_t b4 h
      rcases let12 e7 with ⟨b6, b7⟩ | ⟨b6, b7⟩
      · have g := wb_t b6 g
        obtain ⟨-, h⟩ := wb_n h
        obtain ⟨r5, e5, h⟩ := wb_b h
        obtain ⟨r8, e8, g⟩ := wb_b g
        rcases dig9 e5 with ⟨b8, b9⟩ | ⟨b8, b9⟩
        · have h := wb_t b8 h
          rcases dig12 e8 with ⟨b10, b11⟩ | ⟨b10, b11⟩
          · have g := wb_t b10 g
            obtain ⟨-, h⟩ := wb_n h
            obtain ⟨J9, eJ9, g⟩ := wb_v g
            have key : ∀ (z : Int32), z ≠ 1 → z ≠ 2 → fX9_step_J254 N I3 M z = some R → fX12_steps_J276 N2 J9 L4 K z = some S → TK R.1 S.1 S.2.1 M K := by
              intro z z1 z2 h g
              unfold fX9_step_J254 at h
              unfold fX12_steps_J276 fX12_steps_J279 at g
              obtain ⟨I1, eI1, h⟩ := wb_v h
              obtain ⟨I', eI', h⟩ := wb_v h
              obtain ⟨J1, eJ1, g⟩ := wb_v g
              obtain ⟨J', eJ', g⟩ := wb_v g
              have h := Option.some.inj h
              have g := Option.some.inj g
              subst h; subst g
              rw [eI1] at eI'
              rw [eJ1, eJ9] at eJ'
              obtain ⟨q', e'⟩ := q.adv hc (I' := I') (J' := J') (by rw [eI']; rfl) (by rw [eI']; rfl) (by rw [eJ']; rfl) (by rw [eJ']; rfl)
              have k2 : I' 2 = I3 2 := by rw [eI']; rfl
              have k4 : I' 4 = z := by rw [eI']; rfl
              refine ⟨q', ?_, ?_, ?_, ?_, ?_, ?_, ?_⟩
              · show I' 2 = J' 9
                rw [k2, e29, eJ']; rfl
              · show I' 4 = J' 8
                rw [k4, eJ']; rfl
              · show 0 ≤ (I' 2).toInt
                rw [k2, i2]; exact a3
              · show (I' 2).toInt ≤ (I' 3).toInt
                rw [k2, e', i2, i3]; omega
              · show J' 10 = J' 7 - J' 9
                rw [eJ']; rfl
              · intro q4
                exact absurd (k4.symm.trans q4) z2
              · intro q4
                exact absurd (k4.symm.trans q4) z1
            have e59 : (M 0 (I3 3).toNatClampNeg = 59) ↔ r6 = 59 := by
              rw [e6']
              exact B.eq (by decide) (by decide)
            rcases ifr h with ⟨c2, h⟩ | ⟨c2, h⟩
            · exact key 3 (by decide) (by decide) h (wb_t (e59.mp c2) g)
            · exact key 4 (by decide) (by decide) h (wb_f (fun z => c2 (e59.mpr z)) g)
          · exfalso
            apply b9
            rw [e6'] at b11
            exact (B.rg 48 57 (by omega) (by omega)).mpr b11
        · have h := wb_f (by rw [b8]; decide) h
          rcases dig12 e8 with ⟨b10, b11⟩ | ⟨b10, b11⟩
          · exfalso
            apply b11
            rw [e6']
            exact (B.rg 48 57 (by omega) (by omega)).mp b9
          · have g := wb_f (by rw [b10]; decide) g
            obtain ⟨I6, eI6, h⟩ := wb_v h
            obtain ⟨I7, eI7, h⟩ := wb_v h
            rw [eI6] at eI7
            have l1 : I7 1 = I3 1 := by rw [eI7]; rfl
            have l2 : I7 2 = I3 2 := by rw [eI7]; rfl
            have l3 : I7 3 = I3 3 := by rw [eI7]; rfl
            obtain ⟨q1, q2, q3, q4, q5, q6⟩ := q
            refine lp_dig N N2 I7 J5 L4 R S h g ⟨by rw [l1]; exact q1, by rw [l3]; exact q2, by rw [l3]; exact q3, by rw [l3, l1]; exact q4, by rw [l1]; exact q5, by rw [l1]; exact q6⟩ (by rw [l2]; exact e29) (by rw [l2, i2]; exact a3) (by rw [l2, l3, i2, i3]; exact Int.le_refl _) (by rw [eI7]; rfl) ?_
            rw [j11, eI7]; rfl
      · exfalso
        apply b5
        rw [e6'] at b7
        exact (B.rg 97 122 (by omega) (by omega)).mpr b7
    · have h := wb_f (by rw [b4]; decide) h
      rcases let12 e7 with ⟨b6, b7⟩ | ⟨b6, b7⟩
      · exfalso
        apply b7
        rw [e6']
        exact (B.rg 97 122 (by omega) (by omega)).mp b5
      · have g := wb_f (by rw [b6]; decide) g
        obtain ⟨I7, eI7, h⟩ := wb_v h
        have l1 : I7 1 = I3 1 := by rw [eI7]; rfl
        have l2 : I7 2 = I3 2 := by rw [eI7]; rfl
        have l3 : I7 3 = I3 3 := by rw [eI7]; rfl
        obtain ⟨q1, q2, q3, q4, q5, q6⟩ := q
        refine lp_let N N2 I7 J5 L4 R S h g ⟨by rw [l1]; exact q1, by rw [l3]; exact q2, by rw [l3]; exact q3, by rw [l3, l1]; exact q4, by rw [l1]; exact q5, by rw [l1]; exact q6⟩ (by rw [l2]; exact e29) (by rw [l2, i2]; exact a3) (by rw [l2, l3, i2, i3]; exact Int.le_refl _) (by rw [eI7]; rfl) ⟨?_, ?_⟩
        · rw [l2, l3, i2, i3]
          intro j j0 j1
          omega
        · rw [l2, l3, i2, i3, eL4]
          intro _
          rw [show ((I 3).toInt - (I 3).toInt).toNat = 0 by omega]
          rfl
  · have cg : ¬ J5 7 < J5 6 := by rw [j7, j6, ← a1, ← a2, ← i1, ← i3]; exact c
    have g := wb_f cg g
    obtain ⟨I', eI', h⟩ := wb_v h
    obtain ⟨J1, eJ1, g⟩ := wb_v g
    unfold fX12_steps_J279 at g
    obtain ⟨J', eJ', g⟩ := wb_v g
    have h := Option.some.inj h
    have g := Option.some.inj g
    subst h; subst g
    rw [eJ1] at eJ'
    obtain ⟨q1, q2, q3, q4, q5, q6⟩ := q
    have l1 : I' 1 = I3 1 := by rw [eI']; rfl
    have l2 : I' 2 = I3 2 := by rw [eI']; rfl
    have l3 : I' 3 = I3 3 := by rw [eI']; rfl
    have l4 : I' 4 = 0 := by rw [eI']; rfl
    refine ⟨⟨?_, ?_, ?_, ?_, ?_, ?_⟩, ?_, ?_, ?_, ?_, ?_, ?_, ?_⟩
    · show I' 1 = J' 6
      rw [l1, q1, eJ']; rfl
    · show I' 3 = J' 7
      rw [l3, q2, eJ']; rfl
    · show 0 ≤ (I' 3).toInt
      rw [l3]; exact q3
    · show (I' 3).toInt ≤ (I' 1).toInt
      rw [l3, l1]; exact q4
    · show (I' 1).toInt ≤ 600
      rw [l1]; exact q5
    · show ∀ j : Nat, (j : Int) < (I' 1).toInt → BR (M 0 j) (K 8 j)
      rw [l1]; exact q6
    · show I' 2 = J' 9
      rw [l2, e29, eJ']; rfl
    · show I' 4 = J' 8
      rw [l4, eJ']; rfl
    · show 0 ≤ (I' 2).toInt
      rw [l2, i2]; exact a3
    · show (I' 2).toInt ≤ (I' 3).toInt
      rw [l2, l3, i2, i3]; exact Int.le_refl _
    · show J' 10 = J' 7 - J' 9
      rw [eJ']; rfl
    · intro q4
      exact absurd (l4.symm.trans q4) (by decide)
    · intro q4
      exact absurd (l4.symm.trans q4) (by decide)
theorem lp_blk {N N2 : Nat} {M K : Nat → Nat → Int32} : ∀ (fu fv : Nat) (I J : Nat → Int32) (L : Int64) R S, fX9_step_L0 N fu I M = some R → fX12_steps_L0 N2 fv J L K = some S → TQ I J M K → TK R.1 S.1 S.2.1 M K := by
  intro fu
  induction fu with
  | zero => intro fv I J L R S h; cases (show none = some R from h)
  | succ fu ih =>
    intro fv I J L R S h g q
    cases fv with
    | zero => cases (show none = some S from g)
    | succ fv =>
      rw [fX9_step_L0.eq_2] at h
      rw [fX12_steps_L0.eq_2] at g
      have qa := q
      obtain ⟨a1, a2, a3, a4, a5, a6⟩ := qa
      rcases ifr h with ⟨c, h⟩ | ⟨c, h⟩
      · have g := wb_t (by rw [← a1, ← a2]; exact c) g
        exact stj h g q
      · have g := wb_f (by rw [← a1, ← a2]; exact c) g
        have c : ¬ _ := fun z => c ((le32 rfl rfl).mpr z)
        have hc : (I 3).toInt < (I 1).toInt := by omega
        obtain ⟨-, h⟩ := wb_n h
        obtain ⟨r15, e15, h⟩ := wb_b h
        obtain ⟨r25, e25, g⟩ := wb_b g
        have B := q.byte hc
        have e25' : r25 = K 8 (I 3).toInt.toNat := by
          rcases bat e25 with ⟨b1, b2⟩ | ⟨b1, b2, b3⟩
          · exfalso
            rw [← a1, ← a2] at b1
            omega
          · rw [b3, ← a2]
        have k32 : (M 0 (I 3).toInt.toNat = 32) ↔ r25 = 32 := by rw [e25']; exact B.eq (by decide) (by decide)
        have k10 : (M 0 (I 3).toInt.toNat = 10) ↔ r25 = 10 := by rw [e25']; exact B.eq (by decide) (by decide)
        rcases blk9 e15 with ⟨b1, b2⟩ | ⟨b1, b2, b3⟩
        · have h := wb_f (by rw [b1]; decide) h
          obtain ⟨I', eI, h⟩ := wb_v h
          have go : ∀ (J' : Nat → Int32), J' = upd J 7 (J 7 + 1) → fX12_steps_L0 N2 fv J' L K = some S → TK R.1 S.1 S.2.1 M K := by
            intro J' eJ g
            obtain ⟨q', e'⟩ := q.adv hc (I' := I') (J' := J') (by rw [eI]; rfl) (by rw [eI]; rfl) (by rw [eJ]; rfl) (by rw [eJ]; rfl)
            exact ih fv I' J' L R S h g q'
          rcases ifr g with ⟨d, g⟩ | ⟨d, g⟩
          · obtain ⟨J', eJ, g⟩ := wb_v g
            exact go J' eJ g
          · obtain ⟨r27, e27, g⟩ := wb_b g
            have e27' : r27 = r25 := Option.some.inj (e27.symm.trans e25)
            rcases ifr g with ⟨d2, g⟩ | ⟨d2, g⟩
            · obtain ⟨J', eJ, g⟩ := wb_v g
              exact go J' eJ g
            · exfalso
              rcases b2 with b2 | b2
              · exact d (k32.mp b2)
              · exact d2 (by rw [e27']; exact k10.mp b2)
        · have h := wb_t b1 h
          have g := wb_f (fun z => b2 (k32.mpr z)) g
          obtain ⟨r27, e27, g⟩ := wb_b g
          have e27' : r27 = r25 := Option.some.inj (e27.symm.trans e25)
          have g := wb_f (fun z => b3 (k10.mpr (by rw [← e27']; exact z))) g
          exact stj h g q
/-- a step of both: the same TOKEN -/
theorem st_tk {N N2 : Nat} {M K : Nat → Nat → Int32} {I J : Nat → Int32} {L : Int64} {R : (Nat → Int32) × (Nat → Nat → Int32)} {S : (Nat → Int32) × Int64 × (Nat → Nat → Int32)} (h : fX9_step N I M = some R) (g : fX12_steps N2 J L K = some S) (q : TQ I J M K) : TK R.1 S.1 S.2.1 M K := lp_blk N N2 I J L R S h g q
def PsT (I : Nat → Int32) : Prop := ¬ I 4 = 0 → (I 2).toInt < (I 3).toInt
theorem inc32 {x : Int32} (h : x.toInt ≤ 600) : (x + 1).toInt = x.toInt + 1 := by
  have h1 := Int32.le_toInt x
  have := ia_add x 1 (by rw [show (1 : Int32).toInt = 1 from by decide]; omega) (by rw [show (1 : Int32).toInt = 1 from by decide]; omega)
  rw [this, show (1 : Int32).toInt = 1 from by decide]
theorem sm_let {N : Nat} {M : Nat → Nat → Int32} : ∀ (fu : Nat) (I : Nat → Int32) R, fX9_step_L86 N fu I M = some R → (I 3).toInt ≤ (I 1).toInt → (I 1).toInt ≤ 600 → R.1 2 = I 2 ∧ R.1 4 = I 4 ∧ (I 3).toInt ≤ (R.1 3).toInt ∧ ((I 3).toInt < (I 1).toInt → cL (M 0 (I 3).toInt.toNat) → (I 3).toInt < (R.1 3).toInt) := by
  intro fu
  induction fu with
  | zero => intro I R h; cases (show none = some R from h)
  | succ fu ih =>
    intro I R h h1 h6
    rw [fX9_step_L86.eq_2] at h
    rcases ifr h with ⟨c, h⟩ | ⟨c, h⟩
    · have c := (le32 rfl rfl).mp c
      have h := Option.some.inj h
      subst h
      exact ⟨rfl, rfl, Int.le_refl _, fun q => by omega⟩
    · have c : ¬ _ := fun z => c ((le32 rfl rfl).mpr z)
      obtain ⟨-, h⟩ := wb_n h
      obtain ⟨r, e, h⟩ := wb_b h
      rcases let9 e with ⟨b1, b2⟩ | ⟨b1, b2⟩
      · have h := wb_t b1 h
        have h := Option.some.inj h
        subst h
        exact ⟨rfl, rfl, Int.le_refl _, fun _ q => absurd q b2⟩
      · have h := wb_f (by rw [b1]; decide) h
        obtain ⟨I', eI, h⟩ := wb_v h
        have i1 : I' 1 = I 1 := by rw [eI]; rfl
        have i2 : I' 2 = I 2 := by rw [eI]; rfl
        have i4 : I' 4 = I 4 := by rw [eI]; rfl
        have i3 : (I' 3).toInt = (I 3).toInt + 1 := by
          rw [eI]
          show (I 3 + 1).toInt = _
          exact inc32 (by omega)
        obtain ⟨t1, t2, t3, -⟩ := ih I' R h (by rw [i3, i1]; omega) (by rw [i1]; exact h6)
        exact ⟨t1.trans i2, t2.trans i4, by omega, fun _ _ => by omega⟩
theorem sm_dig {N : Nat} {M : Nat → Nat → Int32} : ∀ (fu : Nat) (I : Nat → Int32) R, fX9_step_L150 N fu I M = some R → (I 3).toInt ≤ (I 1).toInt → (I 1).toInt ≤ 600 → R.1 2 = I 2 ∧ R.1 4 = I 4 ∧ (I 3).toInt ≤ (R.1 3).toInt ∧ ((I 3).toInt < (I 1).toInt → cD (M 0 (I 3).toInt.toNat) → (I 3).toInt < (R.1 3).toInt) := by
  intro fu
  induction fu with
  | zero => intro I R h; cases (show none = some R from h)
  | succ fu ih =>
    intro I R h h1 h6
    rw [fX9_step_L150.eq_2] at h
    rcases ifr h with ⟨c, h⟩ | ⟨c, h⟩
    · have c := (le32 rfl rfl).mp c
      have h := Option.some.inj h
      subst h
      exact ⟨rfl, rfl, Int.le_refl _, fun q => by omega⟩
    · have c : ¬ _ := fun z => c ((le32 rfl rfl).mpr z)
      obtain ⟨-, h⟩ := wb_n h
      obtain ⟨r, e, h⟩ := wb_b h
      rcases dig9 e with ⟨b1, b2⟩ | ⟨b1, b2⟩
      · have h := wb_t b1 h
        have h := Option.some.inj h
        subst h
        exact ⟨rfl, rfl, Int.le_refl _, fun _ q => absurd q b2⟩
      · have h := wb_f (by rw [b1]; decide) h
        have go : ∀ z, fX9_step_J218 N (fun q0 q1 => fX9_step_L150 N fu q0 q1) I M z = some R → R.1 2 = I 2 ∧ R.1 4 = I 4 ∧ (I 3).toInt ≤ (R.1 3).toInt ∧ ((I 3).toInt < (I 1).toInt → cD (M 0 (I 3).toInt.toNat) → (I 3).toInt < (R.1 3).toInt) := by
          intro z h
          unfold fX9_step_J218 at h
          obtain ⟨I1, e1, h⟩ := wb_v h
          obtain ⟨I', eI, h⟩ := wb_v h
          rw [e1] at eI
          have i1 : I' 1 = I 1 := by rw [eI]; rfl
          have i2 : I' 2 = I 2 := by rw [eI]; rfl
          have i4 : I' 4 = I 4 := by rw [eI]; rfl
          have i3 : (I' 3).toInt = (I 3).toInt + 1 := by
            rw [eI]
            show (I 3 + 1).toInt = _
            exact inc32 (by omega)
          obtain ⟨t1, t2, t3, -⟩ := ih I' R h (by rw [i3, i1]; omega) (by rw [i1]; exact h6)
          exact ⟨t1.trans i2, t2.trans i4, by omega, fun _ _ => by omega⟩
        rcases ifr h with ⟨d, h⟩ | ⟨d, h⟩
        · exact go _ h
        · obtain ⟨-, h⟩ := wb_n h
          exact go _ h
theorem sm_j {N : Nat} {M : Nat → Nat → Int32} {I : Nat → Int32} {R : (Nat → Int32) × (Nat → Nat → Int32)} (h : fX9_step_J39 N I M = some R) (h1 : (I 3).toInt ≤ (I 1).toInt) (h6 : (I 1).toInt ≤ 600) : R.1 2 = I 3 ∧ PsT R.1 := by
  unfold fX9_step_J39 at h
  obtain ⟨I3, eI3, h⟩ := wb_v h
  have i1 : I3 1 = I 1 := by rw [eI3]; rfl
  have i2 : I3 2 = I 3 := by rw [eI3]; rfl
  have i3 : I3 3 = I 3 := by rw [eI3]; rfl
  rcases ifr h with ⟨c, h⟩ | ⟨c, h⟩
  · have c := (lt32 rfl rfl).mp c
    obtain ⟨-, h⟩ := wb_n h
    obtain ⟨r4, e4, h⟩ := wb_b h
    rcases let9 e4 with ⟨b1, b2⟩ | ⟨b1, b2⟩
    · have h := wb_t b1 h
      obtain ⟨-, h⟩ := wb_n h
      obtain ⟨r5, e5, h⟩ := wb_b h
      rcases dig9 e5 with ⟨b3, b4⟩ | ⟨b3, b4⟩
      · have h := wb_t b3 h
        obtain ⟨-, h⟩ := wb_n h
        have go : ∀ z, fX9_step_J254 N I3 M z = some R → R.1 2 = I 3 ∧ PsT R.1 := by
          intro z h
          unfold fX9_step_J254 at h
          obtain ⟨I1, e1, h⟩ := wb_v h
          obtain ⟨I', eI, h⟩ := wb_v h
          rw [e1] at eI
          have h := Option.some.inj h
          subst h
          have k2 : I' 2 = I 3 := by rw [eI]; exact i2
          have k3 : (I' 3).toInt = (I3 3).toInt + 1 := by
            rw [eI]
            show (I3 3 + 1).toInt = _
            rw [i1] at c
            exact inc32 (by omega)
          refine ⟨k2, fun _ => ?_⟩
          show (I' 2).toInt < (I' 3).toInt
          rw [k2, k3, i3]; omega
        rcases ifr h with ⟨d, h⟩ | ⟨d, h⟩
        · exact go _ h
        · exact go _ h
      · have h := wb_f (by rw [b3]; decide) h
        obtain ⟨I6, eI6, h⟩ := wb_v h
        obtain ⟨I7, eI7, h⟩ := wb_v h
        rw [eI6] at eI7
        have l1 : I7 1 = I3 1 := by rw [eI7]; rfl
        have l2 : I7 2 = I3 2 := by rw [eI7]; rfl
        have l3 : I7 3 = I3 3 := by rw [eI7]; rfl
        obtain ⟨t1, t2, t3, t4⟩ := sm_dig N I7 R h (by rw [l3, l1]; omega) (by rw [l1, i1]; exact h6)
        refine ⟨t1.trans (l2.trans i2), fun _ => ?_⟩
        have t5 := t4 (by rw [l3, l1]; omega) (by rw [l3]; exact b4)
        rw [t1, l2, i2, ← i3, ← l3]
        exact t5
    · have h := wb_f (by rw [b1]; decide) h
      obtain ⟨I7, eI7, h⟩ := wb_v h
      have l1 : I7 1 = I3 1 := by rw [eI7]; rfl
      have l2 : I7 2 = I3 2 := by rw [eI7]; rfl
      have l3 : I7 3 = I3 3 := by rw [eI7]; rfl
      obtain ⟨t1, t2, t3, t4⟩ := sm_let N I7 R h (by rw [l3, l1]; omega) (by rw [l1, i1]; exact h6)
      refine ⟨t1.trans (l2.trans i2), fun _ => ?_⟩
      have t5 := t4 (by rw [l3, l1]; omega) (by rw [l3]; exact b2)
      rw [t1, l2, i2, ← i3, ← l3]
      exact t5
  · obtain ⟨I', eI, h⟩ := wb_v h
    have h := Option.some.inj h
    subst h
    refine ⟨?_, fun q => absurd ?_ q⟩
    · show I' 2 = I 3
      rw [eI]; exact i2
    · show I' 4 = 0
      rw [eI]; rfl
theorem sm_blk {N : Nat} {M : Nat → Nat → Int32} : ∀ (fu : Nat) (I : Nat → Int32) R, fX9_step_L0 N fu I M = some R → (I 3).toInt ≤ (I 1).toInt → (I 1).toInt ≤ 600 → (I 3).toInt ≤ (R.1 2).toInt ∧ PsT R.1 := by
  intro fu
  induction fu with
  | zero => intro I R h; cases (show none = some R from h)
  | succ fu ih =>
    intro I R h h1 h6
    rw [fX9_step_L0.eq_2] at h
    have fin : fX9_step_J39 N I M = some R → (I 3).toInt ≤ (R.1 2).toInt ∧ PsT R.1 := by
      intro h
      obtain ⟨t1, t2⟩ := sm_j h h1 h6
      exact ⟨by rw [t1]; exact Int.le_refl _, t2⟩
    rcases ifr h with ⟨c, h⟩ | ⟨c, h⟩
    · exact fin h
    · have c : ¬ _ := fun z => c ((le32 rfl rfl).mpr z)
      obtain ⟨-, h⟩ := wb_n h
      obtain ⟨r, e, h⟩ := wb_b h
      rcases ifr h with ⟨d, h⟩ | ⟨d, h⟩
      · exact fin h
      · obtain ⟨I', eI, h⟩ := wb_v h
        have i1 : I' 1 = I 1 := by rw [eI]; rfl
        have i3 : (I' 3).toInt = (I 3).toInt + 1 := by
          rw [eI]
          show (I 3 + 1).toInt = _
          exact inc32 (by omega)
        obtain ⟨t1, t2⟩ := ih I' R h (by rw [i3, i1]; omega) (by rw [i1]; exact h6)
        exact ⟨by omega, t2⟩
theorem st_mono {N : Nat} {M : Nat → Nat → Int32} {I : Nat → Int32} {R : (Nat → Int32) × (Nat → Nat → Int32)} (h : fX9_step N I M = some R) (h1 : (I 3).toInt ≤ (I 1).toInt) (h6 : (I 1).toInt ≤ 600) : (I 3).toInt ≤ (R.1 2).toInt ∧ PsT R.1 := sm_blk N I R h h1 h6
/-! words -/
def zb (w i : Nat) : Int := ((zByt.getD w []).getD i 0).toInt
def zl (w : Nat) : Nat := zLen.getD w 0
def IsW (I : Nat → Int32) (M : Nat → Nat → Int32) (w : Nat) : Prop := I 4 = 1 ∧ (I 3).toInt - (I 2).toInt = (zl w : Int) ∧ ∀ i : Nat, i < zl w → (M 0 ((I 2).toInt.toNat + i)).toInt = zb w i
theorem zl_L : ∀ w, w < 19 → (zL w).toInt = (zl w : Int) ∧ zl w ≤ 7 ∧ 2 ≤ zl w := by decide +kernel
theorem zc_b : ∀ w, w < 19 → ∀ i, i < zl w → (zC w (nI i)).toInt = zb w i ∧ 97 ≤ zb w i ∧ zb w i ≤ 122 := by decide +kernel
theorem isw_l {N : Nat} {I : Nat → Int32} {M : Nat → Nat → Int32} {w : Nat} (hw : w < 19) (h0 : 0 ≤ (I 2).toInt) (h6 : (I 2).toInt ≤ 600) : ∀ (fu y : Nat) (r : Int32), y ≤ zl w → fX9_isWord_L28 N I M w fu (nI y) = some r → (∀ i, i < y → (M 0 ((I 2).toInt.toNat + i)).toInt = zb w i) → (r = 1 ∧ ∀ i, i < zl w → (M 0 ((I 2).toInt.toNat + i)).toInt = zb w i) ∨ (r = 0 ∧ ¬ ∀ i, i < zl w → (M 0 ((I 2).toInt.toNat + i)).toInt = zb w i) := by
  have hl := zl_L w hw
  intro fu
  induction fu with
  | zero => intro y r hy h; cases (show none = some r from h)
  | succ fu ih =>
    intro y r hy h hm
    rw [fX9_isWord_L28.eq_2] at h
    have ty : (nI y).toInt = (y : Int) := nI_toInt (by omega)
    rcases ifr h with ⟨c, h⟩ | ⟨c, h⟩
    · have c := (le32 hl.1 ty).mp c
      exact Or.inl ⟨(Option.some.inj h).symm, fun i hi => hm i (by omega)⟩
    · have c : ¬ _ := fun z => c ((le32 hl.1 ty).mpr z)
      obtain ⟨-, h⟩ := wb_n h
      obtain ⟨-, h⟩ := wb_n h
      have hy2 : y < zl w := by omega
      have ea : (I 2 + nI y).toNatClampNeg = (I 2).toInt.toNat + y := by
        have t := ia_add (I 2) (nI y) (by omega) (by omega)
        rw [cl32, t, ty]
        omega
      rcases ifr h with ⟨d, h⟩ | ⟨d, h⟩
      · obtain ⟨v, ev, h⟩ := wb_v h
        rw [ev, nI_1] at h
        refine ih (y + 1) r (by omega) h (fun i hi => ?_)
        by_cases hi2 : i < y
        · exact hm i hi2
        · have ei : i = y := by omega
          subst ei
          rw [← ea, d]
          exact (zc_b w hw i hy2).1
      · refine Or.inr ⟨(Option.some.inj h).symm, fun q => d ?_⟩
        apply t32
        rw [ea, q y hy2, (zc_b w hw y hy2).1]
theorem isw {N : Nat} {I : Nat → Int32} {M : Nat → Nat → Int32} {w : Nat} {r : Int32} (hw : w < 19) (h0 : 0 ≤ (I 2).toInt) (h1 : (I 2).toInt ≤ (I 3).toInt) (h6 : (I 3).toInt ≤ 600) (h : fX9_isWord N I M w = some r) : (r = 1 ∧ IsW I M w) ∨ (r = 0 ∧ ¬ IsW I M w) := by
  unfold fX9_isWord at h
  have hl := zl_L w hw
  have dd := dif32 (a := I 3) (b := I 2) (by omega) h0
  rcases ifr h with ⟨c, h⟩ | ⟨c, h⟩
  · rcases ifr h with ⟨d, h⟩ | ⟨d, h⟩
    · have d := (eq32 dd hl.1).mp d
      rcases isw_l hw h0 (by omega) N 0 r (Nat.zero_le _) h (fun i hi => absurd hi (Nat.not_lt_zero i)) with ⟨e, q⟩ | ⟨e, q⟩
      · exact Or.inl ⟨e, c, d, q⟩
      · exact Or.inr ⟨e, fun z => q z.2.2⟩
    · exact Or.inr ⟨(Option.some.inj h).symm, fun z => d ((eq32 dd hl.1).mpr z.2.1)⟩
  · exact Or.inr ⟨(Option.some.inj h).symm, fun z => c z.1⟩
def wz (k : Nat) : Nat := [10, 11, 12, 13, 14, 15, 16, 17, 18, 0, 1, 3, 6, 7, 8, 9, 4, 5, 2].getD k 0
theorem wz_lt : ∀ k, k < 19 → wz k < 19 := by decide
theorem wz_inj : ∀ k, k < 19 → ∀ k', k' < 19 → zl (wz k) = zl (wz k') → (∀ i, i < zl (wz k) → zb (wz k) i = zb (wz k') i) → k = k' := by decide +kernel
theorem IsW.uniq {I : Nat → Int32} {M : Nat → Nat → Int32} {k k' : Nat} (hk : k < 19) (hk' : k' < 19) (h : IsW I M (wz k)) (h' : IsW I M (wz k')) : k = k' := by
  have e : zl (wz k) = zl (wz k') := by
    have a := h.2.1
    have b := h'.2.1
    omega
  refine wz_inj k hk k' hk' e (fun i hi => ?_)
  rw [← h.2.2 i hi, h'.2.2 i (by omega)]
theorem lets0 : ∀ k, k < 19 → (fX12_letters 0 (nI k)).map Int64.toInt = some (pk (zb (wz k)) 0 (zl (wz k))) := by decide +kernel
theorem letsN {N : Nat} (x : Int32) : fX12_letters N x = fX12_letters 0 x := rfl
theorem pk_inj (b c : Nat → Int) (s t : Nat) : ∀ n m, (∀ i, i < n → 97 ≤ b (s + i) ∧ b (s + i) ≤ 122) → (∀ i, i < m → 97 ≤ c (t + i) ∧ c (t + i) ≤ 122) → pk b s n = pk c t m → n = m ∧ ∀ i, i < n → b (s + i) = c (t + i) := by
  intro n
  induction n with
  | zero =>
    intro m hb hc h
    cases m with
    | zero => exact ⟨rfl, fun i hi => absurd hi (Nat.not_lt_zero i)⟩
    | succ m =>
      exfalso
      have h1 := (pk_rg c t m (fun i hi => hc i (by omega))).1
      have h2 := hc m (by omega)
      have h : (0 : Int) = 32 * pk c t m + (c (t + m) - 96) := h
      omega
  | succ n ih =>
    intro m hb hc h
    cases m with
    | zero =>
      exfalso
      have h1 := (pk_rg b s n (fun i hi => hb i (by omega))).1
      have h2 := hb n (by omega)
      have h : 32 * pk b s n + (b (s + n) - 96) = (0 : Int) := h
      omega
    | succ m =>
      have h2 := hb n (by omega)
      have h3 := hc m (by omega)
      have h : 32 * pk b s n + (b (s + n) - 96) = 32 * pk c t m + (c (t + m) - 96) := h
      obtain ⟨e, q⟩ := ih m (fun i hi => hb i (by omega)) (fun i hi => hc i (by omega)) (by omega)
      subst e
      refine ⟨rfl, fun i hi => ?_⟩
      by_cases hi2 : i < n
      · exact q i hi2
      · have ei : i = n := by omega
        subst ei
        omega
theorem lgc0 {a b : Int64} : lg_cmp a b = 0 ↔ a = b := by
  unfold lg_cmp
  constructor
  · intro h
    by_cases h1 : a > b
    · rw [if_pos h1] at h; exact absurd h (by decide)
    · rw [if_neg h1] at h
      by_cases h2 : a = b
      · exact h2
      · rw [if_neg h2] at h; exact absurd h (by decide)
  · intro h
    subst h
    rw [if_neg (Int64.lt_irrefl), if_pos rfl]
theorem kw_l {N : Nat} {I J : Nat → Int32} {L : Int64} {M K : Nat → Nat → Int32} (w : TW I L M) (h4 : I 4 = 1) (h0 : 0 ≤ (I 2).toInt) (h1 : (I 2).toInt ≤ (I 3).toInt) (h7 : (I 3).toInt - (I 2).toInt ≤ 7) : ∀ (fu y : Nat) (r : Int32), y ≤ 19 → fX12_knownWord_L21 N J L K fu (nI y) = some r → (∀ k, k < y → ¬ IsW I M (wz k)) → (∃ k, k < 19 ∧ r = nI k ∧ IsW I M (wz k)) ∨ (r = -1 ∧ ∀ k, k < 19 → ¬ IsW I M (wz k)) := by
  intro fu
  induction fu with
  | zero => intro y r hy h; cases (show none = some r from h)
  | succ fu ih =>
    intro y r hy h hm
    rw [fX12_knownWord_L21.eq_2] at h
    have ty : (nI y).toInt = (y : Int) := nI_toInt (by omega)
    rcases ifr h with ⟨c, h⟩ | ⟨c, h⟩
    · have c := (le32 (x := 19) (by decide) ty).mp c
      exact Or.inr ⟨(Option.some.inj h).symm, fun k hk => hm k (by omega)⟩
    · have c : ¬ _ := fun z => c ((le32 (x := 19) (by decide) ty).mpr z)
      have hy2 : y < 19 := by omega
      obtain ⟨r1, e1, h⟩ := wb_b h
      have el : r1.toInt = pk (zb (wz y)) 0 (zl (wz y)) := by
        have t := lets0 y hy2
        rw [letsN] at e1
        rw [e1] at t
        exact Option.some.inj t
      have ew := w.2 (by omega)
      have hz := zl_L (wz y) (wz_lt y hy2)
      have key : r1 = L ↔ IsW I M (wz y) := by
        rw [← Int64.toInt_inj, el, ew]
        constructor
        · intro q
          obtain ⟨e, q⟩ := pk_inj (zb (wz y)) (fun j => (M 0 j).toInt) 0 (I 2).toInt.toNat _ _ (fun i hi => by
            rw [Nat.zero_add]
            exact (zc_b (wz y) (wz_lt y hy2) i hi).2) (fun i hi => w.1 ((I 2).toInt.toNat + i) (by omega) (by omega)) q
          refine ⟨h4, by omega, fun i hi => ?_⟩
          have := q i hi
          rw [Nat.zero_add] at this
          exact this.symm
        · intro q
          have en : ((I 3).toInt - (I 2).toInt).toNat = zl (wz y) := by
            have := q.2.1
            omega
          rw [en]
          have : ∀ n, n ≤ zl (wz y) → pk (zb (wz y)) 0 n = pk (fun j => (M 0 j).toInt) (I 2).toInt.toNat n := by
            intro n
            induction n with
            | zero => intro _; rfl
            | succ n ihn =>
              intro hn
              show 32 * pk _ _ n + (zb (wz y) (0 + n) - 96) = 32 * pk _ _ n + ((M 0 ((I 2).toInt.toNat + n)).toInt - 96)
              rw [ihn (by omega), q.2.2 n (by omega), Nat.zero_add]
          exact this _ (Nat.le_refl _)
      rcases ifr h with ⟨d, h⟩ | ⟨d, h⟩
      · exact Or.inl ⟨y, hy2, (Option.some.inj h).symm, key.mp (lgc0.mp d)⟩
      · obtain ⟨v, ev, h⟩ := wb_v h
        rw [ev, nI_1] at h
        refine ih (y + 1) r (by omega) h (fun k hk => ?_)
        by_cases hk2 : k < y
        · exact hm k hk2
        · have ek : k = y := by omega
          subst ek
          exact fun q => d (lgc0.mpr (key.mpr q))
/-- the word that the reference knows, and the class's words -/
theorem kw {N : Nat} {I J : Nat → Int32} {L : Int64} {M K : Nat → Nat → Int32} {r : Int32} (tk : TK I J L M K) (h : fX12_knownWord N J L K = some r) : (∀ k, k < 19 → (r = nI k ↔ IsW I M (wz k))) ∧ (r = -1 ∨ ∃ k, k < 19 ∧ r = nI k) := by
  obtain ⟨q, b1, b2, b3, b4, b5, b6, b7⟩ := tk
  obtain ⟨a1, a2, a3, a4, a5, a6⟩ := q
  have none : (∀ k, k < 19 → ¬ IsW I M (wz k)) → r = -1 → (∀ k, k < 19 → (r = nI k ↔ IsW I M (wz k))) ∧ (r = -1 ∨ ∃ k, k < 19 ∧ r = nI k) := by
    intro hn hr
    refine ⟨fun k hk => ⟨fun q => ?_, fun q => absurd q (hn k hk)⟩, Or.inl hr⟩
    rw [hr] at q
    have := congrArg Int32.toInt q
    rw [nI_toInt (by omega), show (-1 : Int32).toInt = -1 from by decide] at this
    omega
  have dd : (J 10).toInt = (I 3).toInt - (I 2).toInt := by
    rw [b5, ← a2, ← b1]
    exact dif32 a3 b3
  unfold fX12_knownWord at h
  rcases ifr h with ⟨c, h⟩ | ⟨c, h⟩
  · have h4 : I 4 = 1 := b2.trans c
    rcases ifr h with ⟨d, h⟩ | ⟨d, h⟩
    · have d := (le32 (y := 7) dd (by decide)).mp d
      rcases kw_l (b7 h4) h4 b3 b4 d N 0 r (Nat.zero_le _) h (fun k hk => absurd hk (Nat.not_lt_zero k)) with ⟨k, hk, er, hw⟩ | ⟨er, hn⟩
      · refine ⟨fun k' hk' => ⟨fun q => ?_, fun q => ?_⟩, Or.inr ⟨k, hk, er⟩⟩
        · have e : k = k' := (nI_eq (by omega) (by omega)).mp (er.symm.trans q)
          rw [← e]; exact hw
        · rw [er, IsW.uniq hk hk' hw q]
      · exact none hn er
    · have d : ¬ _ := fun z => d ((le32 (y := 7) dd (by decide)).mpr z)
      refine none (fun k hk q => ?_) (Option.some.inj h).symm
      have := q.2.1
      have hz := zl_L (wz k) (wz_lt k hk)
      omega
  · exact none (fun k hk q => c (b2.symm.trans q.1)) (Option.some.inj h).symm
theorem zN_wz : ∀ k, k < 9 → zN (nI k) = wz k := by decide +kernel
theorem nmd_l {N : Nat} {I : Nat → Int32} {M : Nat → Nat → Int32} {n : Nat} (hn : n ≤ 9) (h0 : 0 ≤ (I 2).toInt) (h1 : (I 2).toInt ≤ (I 3).toInt) (h6 : (I 3).toInt ≤ 600) : ∀ (fu y : Nat) (r : Int32), y ≤ n → fX9_namedOf_L2 N I M (nI n) fu (nI y) = some r → (∀ k, k < y → ¬ IsW I M (wz k)) → (∃ k, k < n ∧ r = nI k ∧ IsW I M (wz k)) ∨ (r = -1 ∧ ∀ k, k < n → ¬ IsW I M (wz k)) := by
  intro fu
  induction fu with
  | zero => intro y r hy h; cases (show none = some r from h)
  | succ fu ih =>
    intro y r hy h hm
    rw [fX9_namedOf_L2.eq_2] at h
    rcases ifr h with ⟨c, h⟩ | ⟨c, h⟩
    · have c := (nI_leI (by omega) (by omega)).mp c
      exact Or.inr ⟨(Option.some.inj h).symm, fun k hk => hm k (by omega)⟩
    · have c : ¬ _ := fun z => c ((nI_leI (by omega) (by omega)).mpr z)
      have hy2 : y < n := by omega
      obtain ⟨r1, e1, h⟩ := wb_b h
      rw [zN_wz y (by omega)] at e1
      rcases isw (wz_lt y (by omega)) h0 h1 h6 e1 with ⟨b1, b2⟩ | ⟨b1, b2⟩
      · have h := wb_f (by rw [b1]; decide) h
        exact Or.inl ⟨y, hy2, (Option.some.inj h).symm, b2⟩
      · have h := wb_t b1 h
        obtain ⟨v, ev, h⟩ := wb_v h
        rw [ev, nI_1] at h
        refine ih (y + 1) r (by omega) h (fun k hk => ?_)
        by_cases hk2 : k < y
        · exact hm k hk2
        · have ek : k = y := by omega
          subst ek
          exact b2
/-! numbers, words, stops: class and reference -/
theorem good0 {N : Nat} {J : Nat → Int32} {L : Int64} {K : Nat → Nat → Int32} {r : Int32} (h : fX12_isGood N J L K = some r) : (r = 1 ∧ J 4 = 0) ∨ (r = 0 ∧ ¬ J 4 = 0) := by
  unfold fX12_isGood at h
  rcases ifr h with ⟨c, h⟩ | ⟨c, h⟩
  · exact Or.inl ⟨(Option.some.inj h).symm, c⟩
  · exact Or.inr ⟨(Option.some.inj h).symm, c⟩
theorem good1 {N : Nat} {J : Nat → Int32} {L : Int64} {K : Nat → Nat → Int32} (h : J 4 = 0) : fX12_isGood N J L K = some 1 := by unfold fX12_isGood; rw [if_pos h]
theorem good2 {N : Nat} {J : Nat → Int32} {L : Int64} {K : Nat → Nat → Int32} (h : ¬ J 4 = 0) : fX12_isGood N J L K = some 0 := by unfold fX12_isGood; rw [if_neg h]
theorem need_n {N : Nat} {J : Nat → Int32} {L : Int64} {K : Nat → Nat → Int32} {x : Int32} {S : (Nat → Int32) × Int64 × (Nat → Nat → Int32)} (j4 : ¬ J 4 = 0) (h : fX12_need N J L K x = some S) : S = (J, L, K) := by
  unfold fX12_need at h
  rw [good2 j4, Option.bind_some] at h
  exact (Option.some.inj (wb_t (c := (0 : Int32) = 0) rfl h)).symm
theorem num_n {N : Nat} {J : Nat → Int32} {L : Int64} {K : Nat → Nat → Int32} {a b : Int32} {S : Int32 × (Nat → Int32) × Int64 × (Nat → Nat → Int32)} (j4 : ¬ J 4 = 0) (h : fX12_number N J L K a b = some S) : S = (0, J, L, K) := by
  unfold fX12_number at h
  rw [good2 j4, Option.bind_some] at h
  exact (Option.some.inj (wb_t (c := (0 : Int32) = 0) rfl h)).symm
theorem nam_n {N : Nat} {J : Nat → Int32} {L : Int64} {K : Nat → Nat → Int32} {k a b : Int32} {S : Int32 × (Nat → Int32) × Int64 × (Nat → Nat → Int32)} (j4 : ¬ J 4 = 0) (h : fX12_named N J L K k a b = some S) : S = (0, J, L, K) := by
  unfold fX12_named at h
  obtain ⟨r1, -, h⟩ := wb_b h
  rcases ifr h with ⟨c, h⟩ | ⟨c, h⟩
  · obtain ⟨r2, e2, h⟩ := wb_b h
    have e2 := need_n j4 e2
    subst e2
    obtain ⟨r3, e3, h⟩ := wb_b h
    have e3 := num_n j4 e3
    subst e3
    exact (Option.some.inj h).symm
  · obtain ⟨r2, e2, h⟩ := wb_b h
    have e2 := need_n j4 e2
    subst e2
    obtain ⟨r3, e3, h⟩ := wb_b h
    have e3 := num_n j4 e3
    subst e3
    exact (Option.some.inj h).symm
theorem wrg0 {N : Nat} {J : Nat → Int32} {L : Int64} {K : Nat → Nat → Int32} {x : Int32} {S : (Nat → Int32) × Int64 × (Nat → Nat → Int32)} (j4 : J 4 = 0) (h : fX12_wrong N J L K x = some S) : S = (upd (upd J 4 x) 5 (J 9), L, K) := by
  unfold fX12_wrong at h
  have h := wb_t j4 h
  obtain ⟨J1, e1, h⟩ := wb_v h
  obtain ⟨J2, e2, h⟩ := wb_v h
  rw [e1] at e2
  rw [e2] at h
  exact (Option.some.inj h).symm
theorem refu {N : Nat} {I : Nat → Int32} {M : Nat → Nat → Int32} {x : Int32} {R : Int32 × (Nat → Int32) × (Nat → Nat → Int32)} (h : fX9_refuse N I M x = some R) : R = (0, upd (upd I 7 x) 8 (I 2), M) := by
  unfold fX9_refuse at h
  obtain ⟨J1, e1, h⟩ := wb_v h
  obtain ⟨J2, e2, h⟩ := wb_v h
  rw [e1] at e2
  rw [e2] at h
  exact (Option.some.inj h).symm
theorem refu2 {N : Nat} {I : Nat → Int32} {M : Nat → Nat → Int32} {x : Int32} {R : Int32 × (Nat → Int32) × (Nat → Nat → Int32)} (h : ((fX9_refuse N I M x).bind fun r => if r.1 &&& 1 = r.1 then some (r.1, r.2.1, r.2.2) else none) = some R) : R = (0, upd (upd I 7 x) 8 (I 2), M) := by
  obtain ⟨r, e, h⟩ := wb_b h
  have e := refu e
  subst e
  exact (Option.some.inj (wb_y h).2).symm
/-- a FAULT of both, of the same kind -/
def FT (I J : Nat → Int32) : Prop := J 4 = I 7 ∧ ¬ J 4 = 0
theorem st_all {N N2 : Nat} {M K : Nat → Nat → Int32} {I J : Nat → Int32} {L : Int64} {R : (Nat → Int32) × (Nat → Nat → Int32)} {S : (Nat → Int32) × Int64 × (Nat → Nat → Int32)} (h : fX9_step N I M = some R) (g : fX12_steps N2 J L K = some S) (q : TQ I J M K) (j4 : J 4 = 0) : TK R.1 S.1 S.2.1 M K ∧ S.1 4 = 0 ∧ R.2 = M ∧ S.2.2 = K ∧ (I 3).toInt ≤ (R.1 2).toInt ∧ PsT R.1 ∧ R.1 7 = I 7 := by
  have m := st_mono h q.2.2.2.1 q.2.2.2.2.1
  exact ⟨st_tk h g q, ((fr_fX12_steps g).1 4 (by decide)).trans j4, (fr_fX9_step h).2.nil, (fr_fX12_steps g).2.nil, m.1, m.2, (fr_fX9_step h).1 7 (by decide)⟩
theorem hold {N : Nat} {I : Nat → Int32} {M : Nat → Nat → Int32} {a b : Int32} {R : Int32 × (Nat → Int32) × (Nat → Nat → Int32)} (h : fX9_holdsNumber N I M a b = some R) : (R = (1, upd I 6 (I 5), M) ∧ I 4 = 2 ∧ ¬ (7 : Int32) < I 3 - I 2 ∧ ¬ I 5 < a ∧ I 5 ≤ b) ∨ (R = (0, upd (upd I 7 2) 8 (I 2), M) ∧ I 4 = 2 ∧ ((7 : Int32) < I 3 - I 2 ∨ I 5 < a ∨ ¬ I 5 ≤ b)) ∨ (R = (0, upd (upd I 7 1) 8 (I 2), M) ∧ ¬ I 4 = 2) := by
  unfold fX9_holdsNumber at h
  rcases ifr h with ⟨c, h⟩ | ⟨c, h⟩
  · rcases ifr h with ⟨d, h⟩ | ⟨d, h⟩
    · exact Or.inr (Or.inl ⟨refu2 h, c, Or.inl d⟩)
    · rcases ifr h with ⟨e, h⟩ | ⟨e, h⟩
      · exact Or.inr (Or.inl ⟨refu2 h, c, Or.inr (Or.inl e)⟩)
      · rcases ifr h with ⟨f, h⟩ | ⟨f, h⟩
        · obtain ⟨I3, e3, h⟩ := wb_v h
          subst e3
          exact Or.inl ⟨(Option.some.inj h).symm, c, d, e, f⟩
        · exact Or.inr (Or.inl ⟨refu2 h, c, Or.inr (Or.inr f)⟩)
  · exact Or.inr (Or.inr ⟨refu2 h, c⟩)
theorem numr {N : Nat} {J : Nat → Int32} {L : Int64} {K : Nat → Nat → Int32} {a b : Int32} {S : Int32 × (Nat → Int32) × Int64 × (Nat → Nat → Int32)} (j4 : J 4 = 0) (h : fX12_number N J L K a b = some S) : (J 8 = 2 ∧ ¬ (7 : Int32) < J 10 ∧ ¬ J 11 < a ∧ J 11 ≤ b ∧ ∃ r3, fX12_steps N J L K = some r3 ∧ S = (J 11, r3.1, r3.2.1, r3.2.2)) ∨ (J 8 = 2 ∧ ((7 : Int32) < J 10 ∨ J 11 < a ∨ ¬ J 11 ≤ b) ∧ S = (J 11, upd (upd J 4 2) 5 (J 9), L, K)) ∨ (¬ J 8 = 2 ∧ S = (J 11, upd (upd J 4 1) 5 (J 9), L, K)) := by
  unfold fX12_number at h
  rw [good1 j4, Option.bind_some] at h
  have h := wb_f (c := (1 : Int32) = 0) (by decide) h
  have j50 : ∀ S, fX12_number_J50 N a b J L K = some S → S = (J 11, upd (upd J 4 2) 5 (J 9), L, K) := by
    intro S h
    unfold fX12_number_J50 fX12_number_J55 at h
    obtain ⟨r4, e4, h⟩ := wb_b h
    have e4 := wrg0 j4 e4
    subst e4
    obtain ⟨v1, e1, h⟩ := wb_v h
    subst e1
    rw [good2 (J := upd (upd J 4 2) 5 (J 9)) (show ¬ (2 : Int32) = 0 by decide), Option.bind_some] at h
    exact (Option.some.inj (wb_t (c := (0 : Int32) = 0) rfl h)).symm
  rcases ifr h with ⟨c, h⟩ | ⟨c, h⟩
  · rcases ifr h with ⟨d, h⟩ | ⟨d, h⟩
    · exact Or.inr (Or.inl ⟨c, Or.inl d, j50 S h⟩)
    · rcases ifr h with ⟨e, h⟩ | ⟨e, h⟩
      · exact Or.inr (Or.inl ⟨c, Or.inr (Or.inl e), j50 S h⟩)
      · rcases ifr h with ⟨f, h⟩ | ⟨f, h⟩
        · left
          unfold fX12_number_J55 at h
          obtain ⟨v1, e1, h⟩ := wb_v h
          subst e1
          rw [good1 j4, Option.bind_some] at h
          have h := wb_f (c := (1 : Int32) = 0) (by decide) h
          obtain ⟨r3, e3, h⟩ := wb_b h
          exact ⟨c, d, e, f, r3, e3, (Option.some.inj h).symm⟩
        · exact Or.inr (Or.inl ⟨c, Or.inr (Or.inr f), j50 S h⟩)
  · right; right
    refine ⟨c, ?_⟩
    obtain ⟨r4, e4, h⟩ := wb_b h
    have e4 := wrg0 j4 e4
    subst e4
    unfold fX12_number_J55 at h
    obtain ⟨v1, e1, h⟩ := wb_v h
    subst e1
    rw [good2 (J := upd (upd J 4 1) 5 (J 9)) (show ¬ (1 : Int32) = 0 by decide), Option.bind_some] at h
    exact (Option.some.inj (wb_t (c := (0 : Int32) = 0) rfl h)).symm
theorem TK.w6 {I J : Nat → Int32} {L : Int64} {M K : Nat → Nat → Int32} (h : TK I J L M K) (v : Int32) : TQ (upd I 6 v) J M K := h.1
/-- a number that is held, not yet taken, by the class; taken by the reference -/
theorem hold_tk {N N2 : Nat} {M K : Nat → Nat → Int32} {I J : Nat → Int32} {L : Int64} {a b : Int32} {R : Int32 × (Nat → Int32) × (Nat → Nat → Int32)} {S : Int32 × (Nat → Int32) × Int64 × (Nat → Nat → Int32)} (tk : TK I J L M K) (j4 : J 4 = 0) (h : fX9_holdsNumber N I M a b = some R) (g : fX12_number N2 J L K a b = some S) : (R = (1, upd I 6 (I 5), M) ∧ I 5 = J 11 ∧ ¬ J 11 < a ∧ J 11 ≤ b ∧ ∃ r3, fX12_steps N2 J L K = some r3 ∧ S = (J 11, r3.1, r3.2.1, r3.2.2)) ∨ (R.1 = 0 ∧ R.2.2 = M ∧ S.2.2.2 = K ∧ FT R.2.1 S.2.1) := by
  obtain ⟨q, b1, b2, b3, b4, b5, b6, b7⟩ := tk
  have q2 := q.2.1
  have e10 : I 3 - I 2 = J 10 := by rw [b5, q2, b1]
  rcases hold h with ⟨c1, c2, c3, c4, c5⟩ | ⟨c1, c2, c3⟩ | ⟨c1, c2⟩
  · have e5 := b6 c2
    rcases numr j4 g with ⟨d1, d2, d3, d4, d5⟩ | ⟨d1, d2, d3⟩ | ⟨d1, d2⟩
    · exact Or.inl ⟨c1, e5, d3, d4, d5⟩
    · exfalso
      rw [← e10, ← e5] at d2
      rcases d2 with d2 | d2 | d2
      · exact c3 d2
      · exact c4 d2
      · exact d2 c5
    · exact absurd (b2.symm.trans c2) d1
  · right
    subst c1
    have e5 := b6 c2
    rcases numr j4 g with ⟨d1, d2, d3, d4, d5⟩ | ⟨d1, d2, d3⟩ | ⟨d1, d2⟩
    · exfalso
      rw [e10, e5] at c3
      rcases c3 with c3 | c3 | c3
      · exact d2 c3
      · exact d3 c3
      · exact c3 d4
    · subst d3
      exact ⟨rfl, rfl, rfl, rfl, show ¬ (2 : Int32) = 0 by decide⟩
    · exact absurd (b2.symm.trans c2) d1
  · right
    subst c1
    rcases numr j4 g with ⟨d1, -⟩ | ⟨d1, -⟩ | ⟨d1, d2⟩
    · exact absurd (b2.trans d1) c2
    · exact absurd (b2.trans d1) c2
    · subst d2
      exact ⟨rfl, rfl, rfl, rfl, show ¬ (1 : Int32) = 0 by decide⟩
/-- a number of both -/
theorem num_tk {N N2 : Nat} {M K : Nat → Nat → Int32} {I J : Nat → Int32} {L : Int64} {a b : Int32} {R : Int32 × (Nat → Int32) × (Nat → Nat → Int32)} {S : Int32 × (Nat → Int32) × Int64 × (Nat → Nat → Int32)} (tk : TK I J L M K) (j4 : J 4 = 0) (h : fX9_takeNumber N I M a b = some R) (g : fX12_number N2 J L K a b = some S) : (R.1 = 1 ∧ TK R.2.1 S.2.1 S.2.2.1 M K ∧ S.2.1 4 = 0 ∧ R.2.1 6 = S.1 ∧ a.toInt ≤ S.1.toInt ∧ S.1.toInt ≤ b.toInt ∧ R.2.2 = M ∧ S.2.2.2 = K ∧ (I 3).toInt ≤ (R.2.1 2).toInt ∧ R.2.1 7 = I 7) ∨ (R.1 = 0 ∧ R.2.2 = M ∧ S.2.2.2 = K ∧ FT R.2.1 S.2.1) := by
  unfold fX9_takeNumber at h
  obtain ⟨r1, e1, h⟩ := wb_b h
  rcases hold_tk tk j4 e1 g with ⟨c1, c2, c3, c4, r3, c5, c6⟩ | ⟨c1, c2, c3, c4⟩
  · left
    subst c1
    have h := wb_f (c := (1 : Int32) = 0) (by decide) h
    obtain ⟨r2, e2, h⟩ := wb_b h
    have h := Option.some.inj h
    subst h
    subst c6
    obtain ⟨t1, t2, t3, t4, t5, t6, t7⟩ := st_all e2 c5 (tk.w6 _) j4
    refine ⟨rfl, t1, t2, ?_, ?_, ?_, t3, t4, t5, t7⟩
    · show r2.1 6 = J 11
      rw [(fr_fX9_step e2).1 6 (by decide)]
      exact c2
    · have this : ¬ _ := fun z => c3 ((lt32 rfl rfl).mpr z)
      show a.toInt ≤ (J 11).toInt
      omega
    · exact (le32 rfl rfl).mp c4
  · right
    have h := wb_t c1 h
    have h := Option.some.inj h
    subst h
    exact ⟨rfl, c2, c3, c4⟩
/-- a word of the class and a known word of the reference -/
theorem wrd_tk {N N2 : Nat} {M K : Nat → Nat → Int32} {I J : Nat → Int32} {L : Int64} {k : Nat} (hk : k < 19) {a b : Int32} {R : Int32 × (Nat → Int32) × (Nat → Nat → Int32)} {S : Int32 × (Nat → Int32) × Int64 × (Nat → Nat → Int32)} (tk : TK I J L M K) (j4 : J 4 = 0) (h : fX9_takeWord N I M (wz k) = some R) (g : fX12_named N2 J L K (nI k) a b = some S) : (R.1 = 1 ∧ R.2.2 = M ∧ (I 3).toInt ≤ (R.2.1 2).toInt ∧ R.2.1 7 = I 7 ∧ ∃ J1 L1, TK R.2.1 J1 L1 M K ∧ J1 4 = 0 ∧ fX12_number N2 J1 L1 K a b = some S) ∨ (R.1 = 0 ∧ R.2.2 = M ∧ S.2.2.2 = K ∧ FT R.2.1 S.2.1) := by
  have tk2 := tk
  obtain ⟨q, b1, b2, b3, b4, b5, b6, b7⟩ := tk2
  unfold fX9_takeWord at h
  unfold fX12_named at g
  obtain ⟨r1, e1, h⟩ := wb_b h
  obtain ⟨s1, f1, g⟩ := wb_b g
  have kk := (kw tk f1).1 k hk
  rcases isw (wz_lt k hk) b3 b4 (by have := q.2.2.2.1; have := q.2.2.2.2.1; omega) e1 with ⟨c1, c2⟩ | ⟨c1, c2⟩
  · left
    have h := wb_f (by rw [c1]; decide) h
    have g := wb_t (kk.mpr c2) g
    obtain ⟨r2, e2, h⟩ := wb_b h
    have h := Option.some.inj h
    subst h
    obtain ⟨s4, f4, g⟩ := wb_b g
    obtain ⟨s5, f5, g⟩ := wb_b g
    have g := Option.some.inj g
    subst g
    unfold fX12_need at f4
    rw [good1 j4, Option.bind_some] at f4
    have f4 := wb_f (c := (1 : Int32) = 0) (by decide) f4
    have f4 := wb_f (c := (1 : Int32) = 0) (by decide) f4
    obtain ⟨s6, f6, f4⟩ := wb_b f4
    have f4 := Option.some.inj f4
    subst f4
    obtain ⟨t1, t2, t3, t4, t5, t6, t7⟩ := st_all e2 f6 q j4
    refine ⟨rfl, t3, t5, t7, s6.1, s6.2.1, t1, t2, ?_⟩
    rw [← t4]
    exact f5
  · right
    have h := wb_t c1 h
    have h := refu2 h
    subst h
    have g := wb_f (fun z => c2 (kk.mp z)) g
    obtain ⟨s2, f2, g⟩ := wb_b g
    obtain ⟨s3, f3, g⟩ := wb_b g
    have g := Option.some.inj g
    subst g
    unfold fX12_need at f2
    rw [good1 j4, Option.bind_some] at f2
    have f2 := wb_f (c := (1 : Int32) = 0) (by decide) f2
    have f2 := wb_t (c := (0 : Int32) = 0) rfl f2
    obtain ⟨s6, f6, f2⟩ := wb_b f2
    have f2 := Option.some.inj f2
    subst f2
    have f6 := wrg0 j4 f6
    subst f6
    have f3 := num_n (J := upd (upd J 4 1) 5 (J 9)) (show ¬ (1 : Int32) = 0 by decide) f3
    subst f3
    exact ⟨rfl, rfl, rfl, rfl, show ¬ (1 : Int32) = 0 by decide⟩
/-- the sign ; of both -/
theorem stop_tk {N N2 : Nat} {M K : Nat → Nat → Int32} {I J : Nat → Int32} {L : Int64} {R : Int32 × (Nat → Int32) × (Nat → Nat → Int32)} {S : (Nat → Int32) × Int64 × (Nat → Nat → Int32)} (tk : TK I J L M K) (j4 : J 4 = 0) (h : fX9_takeStop N I M = some R) (g : (if J 8 = 3 then fX12_need N2 J L K 1 else fX12_need N2 J L K 0) = some S) : (R.1 = 1 ∧ TK R.2.1 S.1 S.2.1 M K ∧ S.1 4 = 0 ∧ R.2.2 = M ∧ S.2.2 = K ∧ (I 3).toInt ≤ (R.2.1 2).toInt ∧ PsT R.2.1 ∧ R.2.1 7 = I 7) ∨ (R.1 = 0 ∧ R.2.2 = M ∧ S.2.2 = K ∧ FT R.2.1 S.1) := by
  have tk2 := tk
  obtain ⟨q, b1, b2, b3, b4, b5, b6, b7⟩ := tk2
  unfold fX9_takeStop at h
  unfold fX12_need at g
  rw [good1 j4, Option.bind_some, Option.bind_some] at g
  rcases ifr h with ⟨c, h⟩ | ⟨c, h⟩
  · left
    have g := wb_t (b2.symm.trans c) g
    have g := wb_f (c := (1 : Int32) = 0) (by decide) g
    have g := wb_f (c := (1 : Int32) = 0) (by decide) g
    obtain ⟨r2, e2, h⟩ := wb_b h
    have h := Option.some.inj h
    subst h
    obtain ⟨s6, f6, g⟩ := wb_b g
    have g := Option.some.inj g
    subst g
    obtain ⟨t1, t2, t3, t4, t5, t6, t7⟩ := st_all e2 f6 q j4
    exact ⟨rfl, t1, t2, t3, t4, t5, t6, t7⟩
  · right
    have h := refu2 h
    subst h
    have g := wb_f (fun z => c (b2.trans z)) g
    have g := wb_f (c := (1 : Int32) = 0) (by decide) g
    have g := wb_t (c := (0 : Int32) = 0) rfl g
    obtain ⟨s6, f6, g⟩ := wb_b g
    have g := Option.some.inj g
    subst g
    have f6 := wrg0 j4 f6
    subst f6
    exact ⟨rfl, rfl, rfl, rfl, show ¬ (1 : Int32) = 0 by decide⟩
/-! a WHEEL's ENTRY: class and reference -/
def DR (A B : Nat → Nat → Int32) : Prop := ∀ e : Nat, e < 22 → A 1 e = B 16 e
theorem j193 {N : Nat} {J : Nat → Int32} {L : Int64} {K : Nat → Nat → Int32} {S : (Nat → Int32) × Int64 × (Nat → Nat → Int32)} (h : fX12_readsEntry_J193 N J L K = some S) : (if J 8 = 3 then fX12_need N J L K 1 else fX12_need N J L K 0) = some S := by
  unfold fX12_readsEntry_J193 at h
  rcases ifr h with ⟨c, h⟩ | ⟨c, h⟩
  · rw [if_pos c]
    obtain ⟨r, e, h⟩ := wb_b h
    rw [e]; exact h
  · rw [if_neg c]
    obtain ⟨r, e, h⟩ := wb_b h
    rw [e]; exact h
theorem n193 {N : Nat} {J : Nat → Int32} {L : Int64} {K : Nat → Nat → Int32} {S : (Nat → Int32) × Int64 × (Nat → Nat → Int32)} (j4 : ¬ J 4 = 0) (h : fX12_readsEntry_J193 N J L K = some S) : S = (J, L, K) := by
  rcases ifr (j193 h) with ⟨c, h⟩ | ⟨c, h⟩
  · exact need_n j4 h
  · exact need_n j4 h
theorem n168 {N : Nat} {J : Nat → Int32} {L : Int64} {K : Nat → Nat → Int32} {e v a b : Int32} {S : (Nat → Int32) × Int64 × (Nat → Nat → Int32)} (j4 : ¬ J 4 = 0) (h : fX12_readsEntry_J168 N J L K e v a b = some S) : S = (J, L, K) := by
  unfold fX12_readsEntry_J168 at h
  obtain ⟨r3, e3, h⟩ := wb_b h
  have e3 := num_n j4 e3
  subst e3
  obtain ⟨v4, e4, h⟩ := wb_v h
  obtain ⟨r5, e5, h⟩ := wb_b h
  rcases good0 e5 with ⟨-, q⟩ | ⟨q, -⟩
  · exact absurd q j4
  · exact n193 j4 (wb_t q h)
theorem n144 {N : Nat} {J : Nat → Int32} {L : Int64} {K : Nat → Nat → Int32} {k e a b : Int32} {S : (Nat → Int32) × Int64 × (Nat → Nat → Int32)} (j4 : ¬ J 4 = 0) (h : fX12_readsEntry_J144 N J L K k e a b = some S) : S = (J, L, K) := by
  unfold fX12_readsEntry_J144 fX12_readsEntry_J166 at h
  obtain ⟨r3, e3, h⟩ := wb_b h
  have e3 := num_n j4 e3
  subst e3
  obtain ⟨v4, e4, h⟩ := wb_v h
  rcases ifr h with ⟨c, h⟩ | ⟨c, h⟩
  · rcases ifr h with ⟨d, h⟩ | ⟨d, h⟩
    · exact n168 j4 h
    · exact n168 j4 h
  · exact n168 j4 h
theorem n129 {N : Nat} {J : Nat → Int32} {L : Int64} {K : Nat → Nat → Int32} {k e : Int32} {S : (Nat → Int32) × Int64 × (Nat → Nat → Int32)} (j4 : ¬ J 4 = 0) (h : fX12_readsEntry_J129 N J L K k e = some S) : S = (J, L, K) := by
  unfold fX12_readsEntry_J129 at h
  rcases ifr h with ⟨c, h⟩ | ⟨c, h⟩
  · exact n144 j4 h
  · exact n144 j4 h
/-- how an ENTRY ends for both -/
def EO (I : Nat → Int32) (M0 M : Nat → Nat → Int32) (R : Int32 × (Nat → Int32) × (Nat → Nat → Int32) × (Nat → Int32) × (Nat → Nat → Int32)) (S : (Nat → Int32) × Int64 × (Nat → Nat → Int32)) : Prop :=
  (R.1 = 1 ∧ TK R.2.2.2.1 S.1 S.2.1 M S.2.2 ∧ S.1 4 = 0 ∧ DR R.2.2.1 S.2.2 ∧ R.2.2.2.2 = M ∧ R.2.2.1 0 = M0 0 ∧ (I 3).toInt ≤ (R.2.2.2.1 2).toInt ∧ PsT R.2.2.2.1 ∧ R.2.2.2.1 7 = I 7) ∨ (R.1 = 0 ∧ FT R.2.2.2.1 S.1 ∧ R.2.2.2.2 = M ∧ R.2.2.1 0 = M0 0)
theorem e_tail {N N2 : Nat} {M K M0 : Nat → Nat → Int32} {I J I0 : Nat → Int32} {L : Int64} {e v a b : Int32} {R : Int32 × (Nat → Int32) × (Nat → Nat → Int32) × (Nat → Int32) × (Nat → Nat → Int32)} {S : (Nat → Int32) × Int64 × (Nat → Nat → Int32)} (tk : TK I J L M K) (j4 : J 4 = 0) (d : DR M0 K)
    (h : ((fX9_takeNumber N I M a b).bind fun r4 => if r4.1 = 0 then (some ((0 : Int32), I0, M0, r4.2.1, r4.2.2)) else if (e < 0 ∨ 22 ≤ (e).toNatClampNeg) then none else (some (wb_um M0 1 (e).toNatClampNeg (((30 : Int32) * v) + (r4.2.1 6)))).bind fun M0_5 => (fX9_takeStop N r4.2.1 r4.2.2).bind fun r6 => if r6.1 &&& 1 = r6.1 then some (r6.1, I0, M0_5, r6.2.1, r6.2.2) else none) = some R)
    (g : fX12_readsEntry_J168 N2 J L K e v b a = some S) : EO I M0 M R S := by
  unfold fX12_readsEntry_J168 at g
  obtain ⟨r4, e4, h⟩ := wb_b h
  obtain ⟨s3, f3, g⟩ := wb_b g
  obtain ⟨v4, ev4, g⟩ := wb_v g
  obtain ⟨s5, f5, g⟩ := wb_b g
  rcases num_tk tk j4 e4 f3 with ⟨c1, c2, c3, c4, c5, c6, c7, c8, c9, c10⟩ | ⟨c1, c2, c3, c4⟩
  · have h := wb_f (by rw [c1]; decide) h
    obtain ⟨hn, h⟩ := wb_n h
    obtain ⟨M5, eM5, h⟩ := wb_v h
    rcases good0 f5 with ⟨q, -⟩ | ⟨-, q⟩
    · have g := wb_f (by rw [q]; decide) g
      obtain ⟨-, g⟩ := wb_n g
      obtain ⟨K6, eK6, g⟩ := wb_v g
      obtain ⟨r6, e6, h⟩ := wb_b h
      have h := (wb_y h).2
      have h := Option.some.inj h
      subst h
      rw [c7] at e6
      have tk2 : TK r4.2.1 s3.2.1 s3.2.2.1 M K6 := by
        rw [eK6, c8]; exact c2
      have d2 : DR M5 K6 := by
        intro i hi
        rw [eM5, eK6, c8, ev4, ← c4]
        show (if (1 : Nat) = 1 then upd (M0 1) e.toNatClampNeg _ else M0 1) i = (if (16 : Nat) = 16 then upd (K 16) e.toNatClampNeg _ else K 16) i
        rw [if_pos rfl, if_pos rfl]
        unfold upd
        by_cases hie : i = e.toNatClampNeg
        · rw [if_pos hie, if_pos hie]
        · rw [if_neg hie, if_neg hie]; exact d i hi
      have m5 : M5 0 = M0 0 := by rw [eM5]; rfl
      rcases stop_tk tk2 c3 e6 (j193 g) with ⟨k1, k2, k3, k4, k5, k6, k7, k8⟩ | ⟨k1, k2, k3, k4⟩
      · left
        refine ⟨k1, ?_, k3, ?_, k4, m5, ?_, k7, k8.trans c10⟩
        · rw [k5]; exact k2
        · rw [k5]; exact d2
        · have := c2.2.2.2.2.1
          show (I 3).toInt ≤ (r6.2.1 2).toInt
          omega
      · right
        exact ⟨k1, k4, k2, m5⟩
    · exact absurd c3 q
  · right
    have h := wb_t c1 h
    have h := Option.some.inj h
    subst h
    rcases good0 f5 with ⟨-, q⟩ | ⟨q, -⟩
    · exact absurd q c4.2
    · have g := n193 c4.2 (wb_t q g)
      subst g
      exact ⟨rfl, c4, c2, rfl⟩
/-- both numbers of an ENTRY -/
theorem e_tail2 {N N2 : Nat} {M K M0 : Nat → Nat → Int32} {I J I0 : Nat → Int32} {L : Int64} {e k : Int32} {R : Int32 × (Nat → Int32) × (Nat → Nat → Int32) × (Nat → Int32) × (Nat → Nat → Int32)} {S : (Nat → Int32) × Int64 × (Nat → Nat → Int32)} (hk : ¬ k = 10) (tk : TK I J L M K) (j4 : J 4 = 0) (d : DR M0 K)
    (h : ((fX9_takeNumber N I M (0 : Int32) (11 : Int32)).bind fun r2 => if r2.1 = 0 then (some ((0 : Int32), I0, M0, r2.2.1, r2.2.2)) else (some ((r2.2.1 6))).bind fun v3 => (fX9_takeNumber N r2.2.1 r2.2.2 (0 : Int32) (29 : Int32)).bind fun r4 => if r4.1 = 0 then (some ((0 : Int32), I0, M0, r4.2.1, r4.2.2)) else if (e < 0 ∨ 22 ≤ (e).toNatClampNeg) then none else (some (wb_um M0 1 (e).toNatClampNeg (((30 : Int32) * v3) + (r4.2.1 6)))).bind fun M0_5 => (fX9_takeStop N r4.2.1 r4.2.2).bind fun r6 => if r6.1 &&& 1 = r6.1 then some (r6.1, I0, M0_5, r6.2.1, r6.2.2) else none) = some R)
    (g : fX12_readsEntry_J129 N2 J L K k e = some S) : EO I M0 M R S := by
  unfold fX12_readsEntry_J129 at g
  have g := wb_f hk g
  unfold fX12_readsEntry_J144 at g
  obtain ⟨r2, e2, h⟩ := wb_b h
  obtain ⟨s7, f7, g⟩ := wb_b g
  obtain ⟨v8, ev8, g⟩ := wb_v g
  have g := wb_f hk g
  unfold fX12_readsEntry_J166 at g
  rcases num_tk tk j4 e2 f7 with ⟨c1, c2, c3, c4, c5, c6, c7, c8, c9, c10⟩ | ⟨c1, c2, c3, c4⟩
  · have h := wb_f (by rw [c1]; decide) h
    obtain ⟨v3, ev3, h⟩ := wb_v h
    rw [c7] at h
    rw [c8] at g
    have ev : v8 = v3 := by rw [ev8, ev3, c4]
    rw [ev] at g
    rcases e_tail c2 c3 d h g with ⟨k1, k2, k3, k4, k5, k6, k7, k8, k9⟩ | k
    · left
      refine ⟨k1, k2, k3, k4, k5, k6, ?_, k8, k9.trans c10⟩
      have := c2.2.2.2.2.1
      omega
    · exact Or.inr k
  · right
    have h := wb_t c1 h
    have h := Option.some.inj h
    subst h
    have g := n168 c4.2 g
    subst g
    exact ⟨rfl, c4, c2, rfl⟩
/-- a DATE's numbers -/
theorem e_tail3 {N N2 : Nat} {M K M0 : Nat → Nat → Int32} {I J I0 : Nat → Int32} {L : Int64} {R : Int32 × (Nat → Int32) × (Nat → Nat → Int32) × (Nat → Int32) × (Nat → Nat → Int32)} {S : (Nat → Int32) × Int64 × (Nat → Nat → Int32)} (tk : TK I J L M K) (j4 : J 4 = 0) (d : DR M0 K)
    (h : ((fX9_takeNumber N I M (0 : Int32) (12 : Int32)).bind fun r5 => if r5.1 = 0 then (some ((0 : Int32), I0, M0, r5.2.1, r5.2.2)) else (some ((r5.2.1 6))).bind fun v6 => if v6 = (12 : Int32) then (fX1_readDate_J41 N I0 M0 r5.2.1 r5.2.2 v6 (4 : Int32) (0 : Int32)) else fX1_readDate_J41 N I0 M0 r5.2.1 r5.2.2 v6 (29 : Int32) (0 : Int32)) = some R)
    (g : fX12_readsEntry_J129 N2 J L K 10 21 = some S) : EO I M0 M R S := by
  unfold fX12_readsEntry_J129 at g
  have g := wb_t (c := (10 : Int32) = 10) rfl g
  unfold fX12_readsEntry_J144 at g
  obtain ⟨r2, e2, h⟩ := wb_b h
  obtain ⟨s7, f7, g⟩ := wb_b g
  obtain ⟨v8, ev8, g⟩ := wb_v g
  have g := wb_t (c := (10 : Int32) = 10) rfl g
  unfold fX12_readsEntry_J166 at g
  rcases num_tk tk j4 e2 f7 with ⟨c1, c2, c3, c4, c5, c6, c7, c8, c9, c10⟩ | ⟨c1, c2, c3, c4⟩
  · have h := wb_f (by rw [c1]; decide) h
    obtain ⟨v3, ev3, h⟩ := wb_v h
    rw [c7] at h
    rw [c8] at g
    have ev : v8 = v3 := by rw [ev8, ev3, c4]
    rw [ev] at g
    have fin : EO r2.2.1 M0 M R S → EO I M0 M R S := by
      rintro (⟨k1, k2, k3, k4, k5, k6, k7, k8, k9⟩ | k)
      · left
        refine ⟨k1, k2, k3, k4, k5, k6, ?_, k8, k9.trans c10⟩
        have := c2.2.2.2.2.1
        omega
      · exact Or.inr k
    unfold fX1_readDate_J41 at h
    rcases ifr h with ⟨q, h⟩ | ⟨q, h⟩
    · exact fin (e_tail c2 c3 d h (wb_t q g))
    · exact fin (e_tail c2 c3 d h (wb_f q g))
  · right
    have h := wb_t c1 h
    have h := Option.some.inj h
    subst h
    rcases ifr g with ⟨q, g⟩ | ⟨q, g⟩
    · have g := n168 c4.2 g
      subst g
      exact ⟨rfl, c4, c2, rfl⟩
    · have g := n168 c4.2 g
      subst g
      exact ⟨rfl, c4, c2, rfl⟩
theorem EO.mono {I I' : Nat → Int32} {M0 M : Nat → Nat → Int32} {R : Int32 × (Nat → Int32) × (Nat → Nat → Int32) × (Nat → Int32) × (Nat → Nat → Int32)} {S : (Nat → Int32) × Int64 × (Nat → Nat → Int32)} (h : EO I' M0 M R S) (h7 : I' 7 = I 7) (hm : (I 3).toInt ≤ (I' 3).toInt) : EO I M0 M R S := by
  rcases h with ⟨k1, k2, k3, k4, k5, k6, k7, k8, k9⟩ | k
  · exact Or.inl ⟨k1, k2, k3, k4, k5, k6, by omega, k8, k9.trans h7⟩
  · exact Or.inr k
theorem isn {N : Nat} {I I0 : Nat → Int32} {M M0 : Nat → Nat → Int32} {x : Int32} {r : Int32 × (Nat → Int32) × (Nat → Nat → Int32)} (h : fX1_isNew N I0 M0 I M x = some r) : x.toNatClampNeg < 22 ∧ ((M0 1 x.toNatClampNeg = -1 ∧ ∃ r1, fX9_step N I M = some r1 ∧ r = (1, r1.1, r1.2)) ∨ (¬ M0 1 x.toNatClampNeg = -1 ∧ r = (0, upd (upd I 7 3) 8 (I 2), M))) := by
  unfold fX1_isNew at h
  obtain ⟨hn, h⟩ := wb_n h
  refine ⟨Nat.lt_of_not_le (fun q => hn (Or.inr q)), ?_⟩
  rcases ifr h with ⟨c, h⟩ | ⟨c, h⟩
  · left
    obtain ⟨r1, e1, h⟩ := wb_b h
    exact ⟨c, r1, e1, (Option.some.inj h).symm⟩
  · exact Or.inr ⟨c, refu2 h⟩
theorem n62 {N : Nat} {J : Nat → Int32} {L : Int64} {K : Nat → Nat → Int32} {y e : Int32} {S : (Nat → Int32) × Int64 × (Nat → Nat → Int32)} (j4 : ¬ J 4 = 0) (h : fX12_readsEntry_J62 N J L K y e = some S) : S = (J, L, K) := by
  unfold fX12_readsEntry_J62 at h
  rw [good2 j4, Option.bind_some] at h
  exact (Option.some.inj (wb_t (c := (0 : Int32) = 0) rfl h)).symm
theorem n20 {N : Nat} {J : Nat → Int32} {L : Int64} {K : Nat → Nat → Int32} {y : Int32} {S : (Nat → Int32) × Int64 × (Nat → Nat → Int32)} (j4 : ¬ J 4 = 0) (h : fX12_readsEntry_J20 N J L K y = some S) : S = (J, L, K) := by
  unfold fX12_readsEntry_J20 at h
  rw [good2 j4, Option.bind_some] at h
  exact (Option.some.inj (wb_t (c := (0 : Int32) = 0) rfl h)).symm
theorem g15 {N : Nat} {J : Nat → Int32} {L : Int64} {K : Nat → Nat → Int32} {y : Int32} {S : (Nat → Int32) × Int64 × (Nat → Nat → Int32)} (j4 : J 4 = 0) (h : fX12_readsEntry_J15 N J L K y = some S) : S = (upd (upd J 4 1) 5 (J 9), L, K) := by
  unfold fX12_readsEntry_J15 at h
  obtain ⟨r, e, h⟩ := wb_b h
  have e := wrg0 j4 e
  subst e
  exact n20 (J := upd (upd J 4 1) 5 (J 9)) (show ¬ (1 : Int32) = 0 by decide) h
theorem g40 {N : Nat} {J : Nat → Int32} {L : Int64} {K : Nat → Nat → Int32} {y e : Int32} {S : (Nat → Int32) × Int64 × (Nat → Nat → Int32)} (j4 : J 4 = 0) (hy : ¬ y = 9) (h : fX12_readsEntry_J40 N J L K y e = some S) : (K 16 e.toNatClampNeg = -1 ∧ ∃ r, fX12_steps N J L K = some r ∧ fX12_readsEntry_J129 N r.1 r.2.1 r.2.2 y e = some S) ∨ (¬ K 16 e.toNatClampNeg = -1 ∧ S = (upd (upd J 4 3) 5 (J 9), L, K)) := by
  unfold fX12_readsEntry_J40 at h
  have h := wb_f hy h
  obtain ⟨-, h⟩ := wb_n h
  rcases ifr h with ⟨c, h⟩ | ⟨c, h⟩
  · left
    refine ⟨c, ?_⟩
    unfold fX12_readsEntry_J62 at h
    rw [good1 j4, Option.bind_some] at h
    have h := wb_f (c := (1 : Int32) = 0) (by decide) h
    obtain ⟨r, e, h⟩ := wb_b h
    exact ⟨r, e, wb_f hy h⟩
  · right
    refine ⟨c, ?_⟩
    obtain ⟨r, e, h⟩ := wb_b h
    have e := wrg0 j4 e
    subst e
    exact n62 (J := upd (upd J 4 3) 5 (J 9)) (show ¬ (3 : Int32) = 0 by decide) h
/-- an ENTRY of both -/
theorem rdE {N N2 : Nat} {M K M0 : Nat → Nat → Int32} {I J I0 : Nat → Int32} {L : Int64} {R : Int32 × (Nat → Int32) × (Nat → Nat → Int32) × (Nat → Int32) × (Nat → Nat → Int32)} {S : (Nat → Int32) × Int64 × (Nat → Nat → Int32)} (tk : TK I J L M K) (j4 : J 4 = 0) (d : DR M0 K) (h : fX1_readEntry N I0 M0 I M = some R) (g : fX12_readsEntry N2 J L K = some S) : EO I M0 M R S := by
  have tk2 := tk
  obtain ⟨q, b1, b2, b3, b4, b5, b6, b7⟩ := tk2
  have h600 : (I 3).toInt ≤ 600 := by
    have q4 := q.2.2.2.1
    have q5 := q.2.2.2.2.1
    omega
  unfold fX1_readEntry at h
  unfold fX12_readsEntry at g
  obtain ⟨r1, e1, h⟩ := wb_b h
  obtain ⟨s, f, g⟩ := wb_b g
  have kk := kw tk f
  rcases isw (w := 0) (by decide) b3 b4 h600 e1 with ⟨c1, c2⟩ | ⟨c1, c2⟩
  · have er : s = nI 9 := (kk.1 9 (by decide)).mpr c2
    subst er
    have g := wb_f (c := nI 9 < 0) (by decide) g
    have g := wb_t (c := nI 9 ≤ 10) (by decide) g
    unfold fX12_readsEntry_J20 at g
    rw [good1 j4, Option.bind_some] at g
    have g := wb_f (c := (1 : Int32) = 0) (by decide) g
    have g := wb_f (c := nI 9 = 10) (by decide) g
    unfold fX12_readsEntry_J40 at g
    have g := wb_t (c := nI 9 = 9) (by decide) g
    unfold fX12_readsEntry_J62 at g
    rw [good1 j4, Option.bind_some] at g
    have g := wb_f (c := (1 : Int32) = 0) (by decide) g
    obtain ⟨s10, f10, g⟩ := wb_b g
    have g := wb_t (c := nI 9 = 9) (by decide) g
    obtain ⟨v11, ev11, g⟩ := wb_v g
    obtain ⟨s12, f12, g⟩ := wb_b g
    obtain ⟨v13, ev13, g⟩ := wb_v g
    obtain ⟨v14, ev14, g⟩ := wb_v g
    obtain ⟨s15, f15, g⟩ := wb_b g
    have h := wb_f (by rw [c1]; decide) h
    obtain ⟨r7, e7, h⟩ := wb_b h
    obtain ⟨r8, e8, h⟩ := wb_b h
    obtain ⟨t1, t2, t3, t4, t5, t6, t7⟩ := st_all e7 f10 q j4
    rw [t3] at e8
    rw [t4] at f12
    have tr := t1.2.2.2.2.1
    rcases hold_tk t1 t2 e8 f12 with ⟨k1, k2, k3, k4, s3, k5, k6⟩ | ⟨k1, k2, k3, k4⟩
    · subst k1
      subst k6
      have h := wb_f (c := (1 : Int32) = 0) (by decide) h
      obtain ⟨r9, e9, h⟩ := wb_b h
      have lo : 1 ≤ (s10.1 11).toInt := by
        have this : ¬ _ := fun z => k3 ((lt32 (y := 1) rfl (by decide)).mpr z)
        omega
      have hi : (s10.1 11).toInt ≤ 12 := (le32 (y := 12) rfl (by decide)).mp k4
      have ex : (8 : Int32) + (upd r7.1 6 (r7.1 5)) 6 = v14 := by
        rw [ev14, ev13]
        show (8 : Int32) + r7.1 5 = 9 + s10.1 11 - 1
        rw [k2]
        apply t32
        have n8 : (8 : Int32).toInt = 8 := by decide
        have n9 : (9 : Int32).toInt = 9 := by decide
        have n1 : (1 : Int32).toInt = 1 := by decide
        have a1 := ia_add 8 (s10.1 11) (by omega) (by omega)
        have a2 := ia_add 9 (s10.1 11) (by omega) (by omega)
        have a3 := ia_sub (9 + s10.1 11) 1 (by omega) (by omega)
        omega
      have e9 : fX1_readDegree N I0 M0 (upd r7.1 6 (r7.1 5)) M v14 = some r9 := by rw [← ex]; exact e9
      unfold fX1_readDegree at e9
      obtain ⟨p1, w1, e9⟩ := wb_b e9
      obtain ⟨hx, w1⟩ := isn w1
      have s34 : s3.1 4 = 0 := ((fr_fX12_steps k5).1 4 (by decide)).trans t2
      have s38 : s3.2.2 = K := (fr_fX12_steps k5).2.nil
      have fin : EO I M0 M r9 S → EO I M0 M R S := by
        intro E
        rcases E with ⟨u1, u2⟩ | ⟨u1, u2⟩
        · have h := Option.some.inj (wb_f (by rw [u1]; decide) h)
          subst h
          exact Or.inl ⟨rfl, u2⟩
        · have h := Option.some.inj (wb_t u1 h)
          subst h
          exact Or.inr ⟨rfl, u2⟩
      apply fin
      rcases good0 f15 with ⟨p, -⟩ | ⟨-, p⟩
      · have g := wb_f (by rw [p]; decide) g
        obtain ⟨-, g⟩ := wb_n g
        rcases w1 with ⟨m1, p2, w2, m2⟩ | ⟨m1, m2⟩
        · subst m2
          have e9 := wb_f (c := (1 : Int32) = 0) (by decide) e9
          obtain ⟨u1, u2, u3, u4, u5, u6, u9⟩ := st_all w2 k5 (t1.w6 _) t2
          have g := wb_t (by rw [s38, ← d _ hx]; exact m1) g
          rw [u4] at g
          rw [u3] at e9
          have E := e_tail2 (k := nI 9) (by decide) u1 u2 d e9 g
          refine E.mono (u9.trans t7) ?_
          have u7 := u1.2.2.2.2.1
          have u8 : (r7.1 3).toInt ≤ (p2.1 2).toInt := u5
          omega
        · subst m2
          have e9 := Option.some.inj (wb_t (c := (0 : Int32) = 0) rfl e9)
          subst e9
          have g := wb_f (by rw [s38, ← d _ hx]; exact m1) g
          obtain ⟨J16, eJ16, g⟩ := wb_v g
          obtain ⟨J17, eJ17, g⟩ := wb_v g
          have j17 : J17 4 = 3 := by rw [eJ17, eJ16]; rfl
          have g := n129 (by rw [j17]; decide) g
          subst g
          exact Or.inr ⟨rfl, ⟨j17, by show ¬ J17 4 = 0; rw [j17]; decide⟩, rfl, rfl⟩
      · exact absurd s34 p
    · right
      have h := Option.some.inj (wb_t k1 h)
      subst h
      rcases good0 f15 with ⟨-, p⟩ | ⟨p, -⟩
      · exact absurd p k4.2
      · have g := n129 k4.2 (wb_t p g)
        subst g
        exact ⟨rfl, k4, k2, rfl⟩
  · have h := wb_t c1 h
    obtain ⟨r2, e2, h⟩ := wb_b h
    rcases isw (w := 1) (by decide) b3 b4 h600 e2 with ⟨c3, c4⟩ | ⟨c3, c4⟩
    · have er : s = nI 10 := (kk.1 10 (by decide)).mpr c4
      subst er
      have g := wb_f (c := nI 10 < 0) (by decide) g
      have g := wb_t (c := nI 10 ≤ 10) (by decide) g
      unfold fX12_readsEntry_J20 at g
      rw [good1 j4, Option.bind_some] at g
      have g := wb_f (c := (1 : Int32) = 0) (by decide) g
      have g := wb_t (c := nI 10 = 10) (by decide) g
      have h := wb_f (by rw [c3]; decide) h
      obtain ⟨r6, e6, h⟩ := wb_b h
      have h := Option.some.inj (wb_y h).2
      subst h
      unfold fX1_readDate at e6
      obtain ⟨p1, w1, e6⟩ := wb_b e6
      obtain ⟨hx, w1⟩ := isn w1
      show EO I M0 M r6 S
      rcases g40 j4 (by decide) g with ⟨m3, s10, f10, g⟩ | ⟨m3, g⟩
      · rcases w1 with ⟨m1, p2, w2, m2⟩ | ⟨m1, m2⟩
        · subst m2
          have e6 := wb_f (c := (1 : Int32) = 0) (by decide) e6
          obtain ⟨u1, u2, u3, u4, u5, u6, u9⟩ := st_all w2 f10 q j4
          rw [u4] at g
          rw [u3] at e6
          refine (e_tail3 u1 u2 d e6 g).mono u9 ?_
          have u7 := u1.2.2.2.2.1
          omega
        · exact absurd ((d _ hx).trans m3) m1
      · rcases w1 with ⟨m1, p2, w2, m2⟩ | ⟨m1, m2⟩
        · exact absurd ((d _ hx).symm.trans m1) m3
        · subst m2
          have e6 := Option.some.inj (wb_t (c := (0 : Int32) = 0) rfl e6)
          subst e6
          subst g
          exact Or.inr ⟨rfl, ⟨rfl, show ¬ (3 : Int32) = 0 by decide⟩, rfl, rfl⟩
    · have h := wb_t c3 h
      obtain ⟨r3, e3, h⟩ := wb_b h
      unfold fX9_namedOf at e3
      rcases nmd_l (n := 9) (Nat.le_refl _) b3 b4 h600 N 0 r3 (Nat.zero_le _) e3 (fun k hk => absurd hk (Nat.not_lt_zero k)) with ⟨k, hk, er, hw⟩ | ⟨er, hn⟩
      · have es : s = nI k := (kk.1 k (by omega)).mpr hw
        subst er
        subst es
        have tkk : (nI k).toInt = (k : Int) := nI_toInt (by omega)
        have g := wb_f (c := nI k < 0) (nI_pos (by omega)) g
        have g := wb_t (c := nI k ≤ 10) ((le32 (y := 10) tkk (by decide)).mpr (by omega)) g
        unfold fX12_readsEntry_J20 at g
        rw [good1 j4, Option.bind_some] at g
        have g := wb_f (c := (1 : Int32) = 0) (by decide) g
        have n10 : ¬ nI k = 10 := fun z => by
          have := (eq32 (y := 10) tkk (by decide)).mp z
          omega
        have n9 : ¬ nI k = 9 := fun z => by
          have := (eq32 (y := 9) tkk (by decide)).mp z
          omega
        have g := wb_f n10 g
        have h := wb_f (fun z => by
          have := (eq32 (y := -1) tkk (by decide)).mp z
          omega) h
        obtain ⟨r6, e6, h⟩ := wb_b h
        have h := Option.some.inj (wb_y h).2
        subst h
        unfold fX1_readDegree at e6
        obtain ⟨p1, w1, e6⟩ := wb_b e6
        obtain ⟨hx, w1⟩ := isn w1
        show EO I M0 M r6 S
        rcases g40 j4 n9 g with ⟨m3, s10, f10, g⟩ | ⟨m3, g⟩
        · rcases w1 with ⟨m1, p2, w2, m2⟩ | ⟨m1, m2⟩
          · subst m2
            have e6 := wb_f (c := (1 : Int32) = 0) (by decide) e6
            obtain ⟨u1, u2, u3, u4, u5, u6, u9⟩ := st_all w2 f10 q j4
            rw [u4] at g
            rw [u3] at e6
            refine (e_tail2 n10 u1 u2 d e6 g).mono u9 ?_
            have u7 := u1.2.2.2.2.1
            omega
          · exact absurd ((d _ hx).trans m3) m1
        · rcases w1 with ⟨m1, p2, w2, m2⟩ | ⟨m1, m2⟩
          · exact absurd ((d _ hx).symm.trans m1) m3
          · subst m2
            have e6 := Option.some.inj (wb_t (c := (0 : Int32) = 0) rfl e6)
            subst e6
            subst g
            exact Or.inr ⟨rfl, ⟨rfl, show ¬ (3 : Int32) = 0 by decide⟩, rfl, rfl⟩
      · have h := wb_t er h
        obtain ⟨r5, e5, h⟩ := wb_b h
        have e5 := refu e5
        subst e5
        have h := Option.some.inj (wb_y h).2
        subst h
        have g15' : fX12_readsEntry_J15 N2 J L K s = some S := by
          rcases kk.2 with z | ⟨k, hk, z⟩
          · exact wb_t (by rw [z]; decide) g
          · have tkk : (nI k).toInt = (k : Int) := nI_toInt (by omega)
            have hw := (kk.1 k hk).mp z
            have g := wb_f (by rw [z]; exact nI_pos (by omega)) g
            refine wb_f ?_ g
            rw [z]
            intro y
            have y := (le32 (y := 10) tkk (by decide)).mp y
            by_cases k9 : k < 9
            · exact hn k k9 hw
            · by_cases k10 : k = 9
              · subst k10; exact c2 hw
              · have k11 : k = 10 := by omega
                subst k11; exact c4 hw
        have g := g15 j4 g15'
        subst g
        exact Or.inr ⟨rfl, ⟨rfl, show ¬ (1 : Int32) = 0 by decide⟩, rfl, rfl⟩
/-! a WHEEL: class and reference -/
theorem atEnd {N : Nat} {I : Nat → Int32} {M : Nat → Nat → Int32} {r : Int32} (h : fX9_isAtEnd N I M = some r) : (r = 1 ∧ I 4 = 0) ∨ (r = 0 ∧ ¬ I 4 = 0) := by
  unfold fX9_isAtEnd at h
  rcases ifr h with ⟨c, h⟩ | ⟨c, h⟩
  · exact Or.inl ⟨(Option.some.inj h).symm, c⟩
  · exact Or.inr ⟨(Option.some.inj h).symm, c⟩
theorem rdL {N N2 : Nat} {x1 x2 x3 : Int32} {gg : (Nat → Int32) → Int64 → (Nat → Nat → Int32) → Int32 → Option (Int32 × (Nat → Int32) × Int64 × (Nat → Nat → Int32))} : ∀ (fu fv y : Nat) (I0 : Nat → Int32) (M0 : Nat → Nat → Int32) (I : Nat → Int32) (M : Nat → Nat → Int32) (J : Nat → Int32) (L : Int64) (K : Nat → Nat → Int32) R S, fX1_readEntries_L10 N fu I0 M0 I M (nI y) = some R → fX12_wheel_L50 N2 x1 x2 x3 gg fv J L K = some S → TK I J L M K → J 4 = 0 → DR M0 K → PsT I → (y : Int) ≤ (I 2).toInt → y ≤ 600 →
    ∃ J' L' K', fX12_wheel_J71 N2 x1 x2 x3 J' L' K' = some S ∧ R.2.2.2.2 = M ∧ R.2.2.1 0 = M0 0 ∧ K' 7 = K 7 ∧ J' 0 = J 0 ∧ J' 3 = J 3 ∧ ((R.1 = 1 ∧ J' 4 = 0 ∧ DR R.2.2.1 K' ∧ R.2.2.2.1 7 = I 7) ∨ (R.1 = 0 ∧ FT R.2.2.2.1 J')) := by
  intro fu
  induction fu with
  | zero => intro fv y I0 M0 I M J L K R S h; cases (show none = some R from h)
  | succ fu ih =>
    intro fv y I0 M0 I M J L K R S h g tk j4 d ps hy hy6
    cases fv with
    | zero => cases (show none = some S from g)
    | succ fv =>
      rw [fX1_readEntries_L10.eq_2] at h
      rw [fX12_wheel_L50.eq_2] at g
      rw [good1 j4, Option.bind_some] at g
      have g := wb_f (c := (1 : Int32) = 0) (by decide) g
      have tk2 := tk
      obtain ⟨q, b1, b2, b3, b4, b5, b6, b7⟩ := tk2
      obtain ⟨a1, a2, a3, a4, a5, a6⟩ := q
      have ty : (nI y).toInt = (y : Int) := nI_toInt (by omega)
      have fin : I 4 = 0 → R = (1, I0, M0, I, M) → ∃ J' L' K', fX12_wheel_J71 N2 x1 x2 x3 J' L' K' = some S ∧ R.2.2.2.2 = M ∧ R.2.2.1 0 = M0 0 ∧ K' 7 = K 7 ∧ J' 0 = J 0 ∧ J' 3 = J 3 ∧ ((R.1 = 1 ∧ J' 4 = 0 ∧ DR R.2.2.1 K' ∧ R.2.2.2.1 7 = I 7) ∨ (R.1 = 0 ∧ FT R.2.2.2.1 J')) := by
        intro h0 eR
        subst eR
        have g := wb_t (b2.symm.trans h0) g
        exact ⟨J, L, K, g, rfl, rfl, rfl, rfl, rfl, Or.inl ⟨rfl, j4, d, rfl⟩⟩
      rcases ifr h with ⟨c, h⟩ | ⟨c, h⟩
      · have c := (le32 (x := 600) (by decide) ty).mp c
        refine fin ?_ (Option.some.inj h).symm
        refine Decidable.byContradiction (fun z => ?_)
        have := ps z
        omega
      · have c : ¬ _ := fun z => c ((le32 (x := 600) (by decide) ty).mpr z)
        obtain ⟨r3, e3, h⟩ := wb_b h
        rcases atEnd e3 with ⟨c1, c2⟩ | ⟨c1, c2⟩
        · exact fin c2 (Option.some.inj (wb_f (by rw [c1]; decide) h)).symm
        · have h := wb_t c1 h
          have g := wb_f (fun z => c2 (b2.trans z)) g
          obtain ⟨r4, e4, h⟩ := wb_b h
          obtain ⟨s8, f8, g⟩ := wb_b g
          have k7 : s8.2.2 7 = K 7 := (fr_fX12_readsEntry f8).2 7 (by decide)
          have z0 : s8.1 0 = J 0 := (fr_fX12_readsEntry f8).1 0 (by decide)
          have z3 : s8.1 3 = J 3 := (fr_fX12_readsEntry f8).1 3 (by decide)
          rcases rdE tk j4 d e4 f8 with ⟨k1, k2, k3, k4, k5, k6, km, kp, kf⟩ | ⟨k1, k2, k3, k4⟩
          · have h := wb_f (by rw [k1]; decide) h
            obtain ⟨v5, e5, h⟩ := wb_v h
            rw [e5, nI_1, k5] at h
            have ps2 := ps c2
            obtain ⟨J', L', K', t1, t2, t3, t4, y0, y3, t5⟩ := ih fv (y + 1) r4.2.1 r4.2.2.1 r4.2.2.2.1 M s8.1 s8.2.1 s8.2.2 R S h g k2 k3 k4 kp (by omega) (by omega)
            refine ⟨J', L', K', t1, t2, t3.trans k6, t4.trans k7, y0.trans z0, y3.trans z3, ?_⟩
            rcases t5 with ⟨u1, u2, u3, u4⟩ | u
            · exact Or.inl ⟨u1, u2, u3, u4.trans kf⟩
            · exact Or.inr u
          · have h := Option.some.inj (wb_t k1 h)
            subst h
            cases fv with
            | zero => cases (show none = some S from g)
            | succ fv =>
              rw [fX12_wheel_L50.eq_2] at g
              rw [good2 k2.2, Option.bind_some] at g
              have g := wb_t (c := (0 : Int32) = 0) rfl g
              exact ⟨s8.1, s8.2.1, s8.2.2, g, k3, k4, k7, z0, z3, Or.inr ⟨rfl, k2⟩⟩
/-- of the reference's wheel: the draft is cleared -/
theorem w29 {N : Nat} {x1 x2 x3 : Int32} : ∀ (fu y : Nat) (J : Nat → Int32) (L : Int64) (K : Nat → Nat → Int32) S, fX12_wheel_L29 N x1 x2 x3 fu J L K (nI y) = some S → y ≤ 22 → (∀ e, e < y → K 16 e = -1) → ∃ (K' : Nat → Nat → Int32) (gg : (Nat → Int32) → Int64 → (Nat → Nat → Int32) → Int32 → Option (Int32 × (Nat → Int32) × Int64 × (Nat → Nat → Int32))), fX12_wheel_L50 N x1 x2 x3 gg N J L K' = some S ∧ (∀ e, e < 22 → K' 16 e = -1) ∧ ∀ k, ¬ k = 16 → K' k = K k := by
  intro fu
  induction fu with
  | zero => intro y J L K S h; cases (show none = some S from h)
  | succ fu ih =>
    intro y J L K S h hy hk
    rw [fX12_wheel_L29.eq_2] at h
    have ty : (nI y).toInt = (y : Int) := nI_toInt (by omega)
    rcases ifr h with ⟨c, h⟩ | ⟨c, h⟩
    · have c := (le32 (x := 22) (by decide) ty).mp c
      exact ⟨K, _, h, fun e he => hk e (by omega), fun _ _ => rfl⟩
    · have c : ¬ _ := fun z => c ((le32 (x := 22) (by decide) ty).mpr z)
      obtain ⟨-, h⟩ := wb_n h
      obtain ⟨K9, e9, h⟩ := wb_v h
      obtain ⟨v, ev, h⟩ := wb_v h
      rw [ev, nI_1] at h
      rw [nI_clamp (by omega)] at e9
      obtain ⟨K', gg, t1, t2, t3⟩ := ih (y + 1) J L K9 S h (by omega) (fun e he => by
        rw [e9]
        show (if (16 : Nat) = 16 then upd (K 16) y (-1) else K 16) e = -1
        rw [if_pos rfl]
        unfold upd
        by_cases hey : e = y
        · rw [if_pos hey]
        · rw [if_neg hey]; exact hk e (by omega))
      refine ⟨K', gg, t1, t2, fun k hk => (t3 k hk).trans ?_⟩
      rw [e9]
      show (if k = 16 then upd (K 16) y (-1) else K k) = K k
      rw [if_neg hk]
/-- of the reference's wheel: the draft is kept -/
theorem w86 {N : Nat} {x1 x2 x3 : Int32} {b : Nat} (hb : ((22 : Int32) * (((20 : Int32) * x1) + x2)).toInt = (b : Int)) (hb2 : b + 22 ≤ 2640) : ∀ (fu y : Nat) (J : Nat → Int32) (L : Int64) (K : Nat → Nat → Int32) S, fX12_wheel_L86 N x1 x2 x3 fu J L K (nI y) = some S → y ≤ 22 → S.1 = 0 ∧ S.2.1 = J ∧ (∀ j, S.2.2.2 7 j = if b + y ≤ j ∧ j < b + 22 then K 16 (j - b) else K 7 j) := by
  intro fu
  induction fu with
  | zero => intro y J L K S h; cases (show none = some S from h)
  | succ fu ih =>
    intro y J L K S h hy
    rw [fX12_wheel_L86.eq_2] at h
    have ty : (nI y).toInt = (y : Int) := nI_toInt (by omega)
    rcases ifr h with ⟨c, h⟩ | ⟨c, h⟩
    · have c := (le32 (x := 22) (by decide) ty).mp c
      have h := Option.some.inj h
      subst h
      refine ⟨rfl, rfl, fun j => ?_⟩
      rw [if_neg (by omega)]
    · have c : ¬ _ := fun z => c ((le32 (x := 22) (by decide) ty).mpr z)
      obtain ⟨-, h⟩ := wb_n h
      obtain ⟨-, h⟩ := wb_n h
      obtain ⟨K9, e9, h⟩ := wb_v h
      obtain ⟨v, ev, h⟩ := wb_v h
      rw [ev, nI_1] at h
      have ei : ((22 : Int32) * (((20 : Int32) * x1) + x2) + nI y).toNatClampNeg = b + y := by
        rw [cl32, ia_add _ _ (by omega) (by omega), hb, ty]
        omega
      rw [ei, nI_clamp (by omega)] at e9
      obtain ⟨t1, t0, t2⟩ := ih (y + 1) J L K9 S h (by omega)
      refine ⟨t1, t0, fun j => ?_⟩
      rw [t2 j]
      have k16 : K9 16 = K 16 := by rw [e9]; rfl
      have k7 : K9 7 j = if j = b + y then K 16 y else K 7 j := by
        rw [e9]
        show (if (7 : Nat) = 7 then upd (K 7) (b + y) (K 16 y) else K 7) j = _
        rw [if_pos rfl]
        rfl
      rw [k16, k7]
      by_cases h1 : b + (y + 1) ≤ j ∧ j < b + 22
      · rw [if_pos h1, if_pos (by omega)]
      · rw [if_neg h1]
        by_cases h2 : j = b + y
        · rw [if_pos h2, if_pos (by omega), h2, show b + y - b = y by omega]
        · rw [if_neg h2, if_neg (by omega)]

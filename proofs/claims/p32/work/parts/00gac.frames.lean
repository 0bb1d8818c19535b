theorem fr_fX12_handed {N : Nat} {I0 : Nat → Int32} {L0 : Int64} {M0 : Nat → Nat → Int32} {x1 : Int32} {x2 : Int32} {x3 : Int32} {R} (h : fX12_handed N I0 L0 M0 x1 x2 x3 = some R) : Eqo fwI_X12_handed R.2.1 I0 ∧ Eqo fwM_X12_handed R.2.2.2 M0 := by
  unfold fX12_handed at h
  obtain ⟨I0_1, e_I0_1, h⟩ := wb_v h
  have f_I0_1 := Eqo.eq e_I0_1 (Eqo.u (by decide) (Eqo.refl fwI_X12_handed I0))
  obtain ⟨r2, e_r2, h⟩ := wb_b h
  have a1 := fr_fX12_isBook e_r2
  have fI_r2 := a1.1.tr (W := fwI_X12_handed) (by decide) f_I0_1
  have fM_r2 := a1.2.tr (W := fwM_X12_handed) (by decide) (Eqo.refl fwM_X12_handed M0)
  rcases fr_i h with h | h
  · have h := Option.some.inj h
    subst h
    exact ⟨fI_r2, fM_r2⟩
  · obtain ⟨r3, e_r3, h⟩ := wb_b h
    have a2 := fr_fX12_isBook e_r3
    have fI_r3 := a2.1.tr (W := fwI_X12_handed) (by decide) fI_r2
    have fM_r3 := a2.2.tr (W := fwM_X12_handed) (by decide) fM_r2
    rcases fr_i h with h | h
    · have h := Option.some.inj h
      subst h
      exact ⟨fI_r3, fM_r3⟩
    · obtain ⟨r4, e_r4, h⟩ := wb_b h
      have a3 := fr_fX12_isBook e_r4
      have fI_r4 := a3.1.tr (W := fwI_X12_handed) (by decide) fI_r3
      have fM_r4 := a3.2.tr (W := fwM_X12_handed) (by decide) fM_r3
      rcases fr_i h with h | h
      · have h := Option.some.inj h
        subst h
        exact ⟨fI_r4, fM_r4⟩
      · have a4 := fr_fX12_handed_L37 _ _ _ _ _ _ _ h
        exact ⟨a4.1.tr (by decide) fI_r4, a4.2.tr (by decide) fM_r4⟩
abbrev fwI_X12_leaf : List Nat := [0]
abbrev fwM_X12_leaf : List Nat := [27, 28]
theorem fr_fX12_leaf {N : Nat} {I0 : Nat → Int32} {L0 : Int64} {M0 : Nat → Nat → Int32} {x1 : Int32} {x2 : Int32} {R} (h : fX12_leaf N I0 L0 M0 x1 x2 = some R) : Eqo fwI_X12_leaf R.2.1 I0 ∧ Eqo fwM_X12_leaf R.2.2.2 M0 := by
  unfold fX12_leaf at h
  obtain ⟨r1, e_r1, h⟩ := wb_b h
  have a1 := fr_fX12_isWheel e_r1
  have fI_r1 := a1.1.tr (W := fwI_X12_leaf) (by decide) (Eqo.refl fwI_X12_leaf I0)
  have fM_r1 := a1.2.tr (W := fwM_X12_leaf) (by decide) (Eqo.refl fwM_X12_leaf M0)
  rcases fr_i h with h | h
  · have h := Option.some.inj h
    subst h
    exact ⟨fI_r1, fM_r1⟩
  · obtain ⟨r2, -, h⟩ := wb_b h
    rcases fr_i h with h | h
    · obtain ⟨-, h⟩ := wb_n h
      obtain ⟨-, h⟩ := wb_n h
      obtain ⟨M0_3, e_M0_3, h⟩ := wb_v h
      have f_M0_3 := Eqo.eq e_M0_3 (Eqo.m (by decide) fM_r1)
      obtain ⟨-, h⟩ := wb_n h
      obtain ⟨-, h⟩ := wb_n h
      obtain ⟨M0_4, e_M0_4, h⟩ := wb_v h
      have f_M0_4 := Eqo.eq e_M0_4 (Eqo.m (by decide) f_M0_3)
      obtain ⟨-, h⟩ := wb_n h
      have h := Option.some.inj h
      subst h
      exact ⟨fI_r1, f_M0_4⟩
    · have h := Option.some.inj h
      subst h
      exact ⟨fI_r1, fM_r1⟩
abbrev fwI_X12_order : List Nat := [0]
abbrev fwM_X12_order : List Nat := [29, 30]
theorem fr_fX12_order_L135 {N : Nat} {x1 : Int32} {x2 : Int32} {x3 : Int32} {y117_5 : Int32} {y117_7 : Int32} {y51_4 : Int32} {g51 : (Nat → Int32) → Int64 → (Nat → Nat → Int32) → Int32 → Int32 → Option (Int32 × (Nat → Int32) × Int64 × (Nat → Nat → Int32))} {g117 : (Nat → Int32) → Int64 → (Nat → Nat → Int32) → Int32 → Int32 → Int32 → Option (Int32 × (Nat → Int32) × Int64 × (Nat → Nat → Int32))} (hg51 : ∀ q0 q1 q2 q3 q4 R, g51 q0 q1 q2 q3 q4 = some R → Eqo fwI_X12_order R.2.1 q0 ∧ Eqo fwM_X12_order R.2.2.2 q2) (hg117 : ∀ q0 q1 q2 q3 q4 q5 R, g117 q0 q1 q2 q3 q4 q5 = some R → Eqo fwI_X12_order R.2.1 q0 ∧ Eqo fwM_X12_order R.2.2.2 q2) : ∀ fu I0_l135 L0_l135 M0_l135 y135_6 y135_8 R, fX12_order_L135 N x1 x2 x3 y117_5 y117_7 y51_4 g51 g117 fu I0_l135 L0_l135 M0_l135 y135_6 y135_8 = some R → Eqo fwI_X12_order R.2.1 I0_l135 ∧ Eqo fwM_X12_order R.2.2.2 M0_l135 := by
  intro fu
  induction fu with
  | zero => intro I0_l135 L0_l135 M0_l135 y135_6 y135_8 R h; cases (show none = some R from h)
  | succ fu ih =>
    intro I0_l135 L0_l135 M0_l135 y135_6 y135_8 R h
    rw [fX12_order_L135.eq_2] at h
    rcases fr_i h with h | h
    · obtain ⟨-, h⟩ := wb_n h
      rcases fr_i h with h | h
      · obtain ⟨v3, -, h⟩ := wb_v h
        have a1 := hg117 _ _ _ _ _ _ _ h
        exact ⟨a1.1.tr (by decide) (Eqo.refl fwI_X12_order I0_l135), a1.2.tr (by decide) (Eqo.refl fwM_X12_order M0_l135)⟩
      · obtain ⟨-, h⟩ := wb_n h
        obtain ⟨v4, -, h⟩ := wb_v h
        obtain ⟨v5, -, h⟩ := wb_v h
        have a2 := hg117 _ _ _ _ _ _ _ h
        exact ⟨a2.1.tr (by decide) (Eqo.refl fwI_X12_order I0_l135), a2.2.tr (by decide) (Eqo.refl fwM_X12_order M0_l135)⟩
    · obtain ⟨-, h⟩ := wb_n h
      obtain ⟨-, h⟩ := wb_n h
      rcases fr_i h with h | h
      · obtain ⟨-, h⟩ := wb_n h
        obtain ⟨-, h⟩ := wb_n h
        rcases fr_i h with h | h
        · obtain ⟨v6, -, h⟩ := wb_v h
          have a3 := ih _ _ _ _ _ _ h
          exact ⟨a3.1.tr (by decide) (Eqo.refl fwI_X12_order I0_l135), a3.2.tr (by decide) (Eqo.refl fwM_X12_order M0_l135)⟩
        · obtain ⟨-, h⟩ := wb_n h
          obtain ⟨-, h⟩ := wb_n h
          obtain ⟨M0_7, e_M0_7, h⟩ := wb_v h
          have f_M0_7 := Eqo.eq e_M0_7 (Eqo.m (by decide) (Eqo.refl fwM_X12_order M0_l135))
          obtain ⟨v8, -, h⟩ := wb_v h
          have a4 := ih _ _ _ _ _ _ h
          exact ⟨a4.1.tr (by decide) (Eqo.refl fwI_X12_order I0_l135), a4.2.tr (by decide) f_M0_7⟩
      · obtain ⟨v9, -, h⟩ := wb_v h
        obtain ⟨v10, -, h⟩ := wb_v h
        have a5 := ih _ _ _ _ _ _ h
        exact ⟨a5.1.tr (by decide) (Eqo.refl fwI_X12_order I0_l135), a5.2.tr (by decide) (Eqo.refl fwM_X12_order M0_l135)⟩
theorem fr_fX12_order_L117 {N : Nat} {x1 : Int32} {x2 : Int32} {x3 : Int32} {y51_4 : Int32} {g51 : (Nat → Int32) → Int64 → (Nat → Nat → Int32) → Int32 → Int32 → Option (Int32 × (Nat → Int32) × Int64 × (Nat → Nat → Int32))} (hg51 : ∀ q0 q1 q2 q3 q4 R, g51 q0 q1 q2 q3 q4 = some R → Eqo fwI_X12_order R.2.1 q0 ∧ Eqo fwM_X12_order R.2.2.2 q2) : ∀ fu I0_l117 L0_l117 M0_l117 y117_5 y117_6 y117_7 R, fX12_order_L117 N x1 x2 x3 y51_4 g51 fu I0_l117 L0_l117 M0_l117 y117_5 y117_6 y117_7 = some R → Eqo fwI_X12_order R.2.1 I0_l117 ∧ Eqo fwM_X12_order R.2.2.2 M0_l117 := by
  intro fu
  induction fu with
  | zero => intro I0_l117 L0_l117 M0_l117 y117_5 y117_6 y117_7 R h; cases (show none = some R from h)
  | succ fu ih =>
    intro I0_l117 L0_l117 M0_l117 y117_5 y117_6 y117_7 R h
    rw [fX12_order_L117.eq_2] at h
    rcases fr_i h with h | h
    · rcases fr_i h with h | h
      · have h := Option.some.inj h
        subst h
        exact ⟨(Eqo.refl fwI_X12_order I0_l117), (Eqo.refl fwM_X12_order M0_l117)⟩
      · have h := Option.some.inj h
        subst h
        exact ⟨(Eqo.refl fwI_X12_order I0_l117), (Eqo.refl fwM_X12_order M0_l117)⟩
    · obtain ⟨-, h⟩ := wb_n h
      obtain ⟨M0_2, e_M0_2, h⟩ := wb_v h
      have f_M0_2 := Eqo.eq e_M0_2 (Eqo.m (by decide) (Eqo.refl fwM_X12_order M0_l117))
      have c103 : ∀ q0 q1 q2 q3 q4 q5 R, (fX12_order_L117 N x1 x2 x3 y51_4 g51 fu q0 q1 q2 q3 q4 q5) = some R → Eqo fwI_X12_order R.2.1 q0 ∧ Eqo fwM_X12_order R.2.2.2 q2 := by
          intro q0 q1 q2 q3 q4 q5 R h
          have a102 := ih _ _ _ _ _ _ _ h
          exact ⟨a102.1.tr (by decide) (Eqo.refl fwI_X12_order q0), a102.2.tr (by decide) (Eqo.refl fwM_X12_order q2)⟩
      have a1 := fr_fX12_order_L135 hg51 c103 _ _ _ _ _ _ _ h
      exact ⟨a1.1.tr (by decide) (Eqo.refl fwI_X12_order I0_l117), a1.2.tr (by decide) f_M0_2⟩
theorem fr_fX12_order_L51 {N : Nat} {x1 : Int32} {x2 : Int32} {x3 : Int32} : ∀ fu I0_l51 L0_l51 M0_l51 y51_4 y51_5 R, fX12_order_L51 N x1 x2 x3 fu I0_l51 L0_l51 M0_l51 y51_4 y51_5 = some R → Eqo fwI_X12_order R.2.1 I0_l51 ∧ Eqo fwM_X12_order R.2.2.2 M0_l51 := by
  intro fu
  induction fu with
  | zero => intro I0_l51 L0_l51 M0_l51 y51_4 y51_5 R h; cases (show none = some R from h)
  | succ fu ih =>
    intro I0_l51 L0_l51 M0_l51 y51_4 y51_5 R h
    rw [fX12_order_L51.eq_2] at h
    obtain ⟨-, h⟩ := wb_n h
    rcases fr_i h with h | h
    · have c103 : ∀ q0 q1 q2 q3 q4 R, (fX12_order_L51 N x1 x2 x3 fu q0 q1 q2 q3 q4) = some R → Eqo fwI_X12_order R.2.1 q0 ∧ Eqo fwM_X12_order R.2.2.2 q2 := by
          intro q0 q1 q2 q3 q4 R h
          have a102 := ih _ _ _ _ _ _ h
          exact ⟨a102.1.tr (by decide) (Eqo.refl fwI_X12_order q0), a102.2.tr (by decide) (Eqo.refl fwM_X12_order q2)⟩
      have a1 := fr_fX12_order_L117 c103 _ _ _ _ _ _ _ _ h
      exact ⟨a1.1.tr (by decide) (Eqo.refl fwI_X12_order I0_l51), a1.2.tr (by decide) (Eqo.refl fwM_X12_order M0_l51)⟩
    · obtain ⟨-, h⟩ := wb_n h
      obtain ⟨r11, -, h⟩ := wb_b h
      rcases fr_i h with h | h
      · obtain ⟨v15, -, h⟩ := wb_v h
        have a104 := ih _ _ _ _ _ _ h
        exact ⟨a104.1.tr (by decide) (Eqo.refl fwI_X12_order I0_l51), a104.2.tr (by decide) (Eqo.refl fwM_X12_order M0_l51)⟩
      · obtain ⟨-, h⟩ := wb_n h
        obtain ⟨M0_12, e_M0_12, h⟩ := wb_v h
        have f_M0_12 := Eqo.eq e_M0_12 (Eqo.m (by decide) (Eqo.refl fwM_X12_order M0_l51))
        obtain ⟨v13, -, h⟩ := wb_v h
        obtain ⟨v14, -, h⟩ := wb_v h
        have a105 := ih _ _ _ _ _ _ h
        exact ⟨a105.1.tr (by decide) (Eqo.refl fwI_X12_order I0_l51), a105.2.tr (by decide) f_M0_12⟩
theorem fr_fX12_order_J36 {N : Nat} {x1 : Int32} {x2 : Int32} {x3 : Int32} {I0_j36 : Nat → Int32} {L0_j36 : Int64} {M0_j36 : Nat → Nat → Int32} {z36_0 : Int32} {R} (h : fX12_order_J36 N x1 x2 x3 I0_j36 L0_j36 M0_j36 z36_0 = some R) : Eqo fwI_X12_order R.2.1 I0_j36 ∧ Eqo fwM_X12_order R.2.2.2 M0_j36 := by
  unfold fX12_order_J36 at h
  obtain ⟨r1, e_r1, h⟩ := wb_b h
  have a1 := fr_fX12_right e_r1
  have fI_r1 := a1.1.tr (W := fwI_X12_order) (by decide) (Eqo.refl fwI_X12_order I0_j36)
  have fM_r1 := a1.2.tr (W := fwM_X12_order) (by decide) (Eqo.refl fwM_X12_order M0_j36)
  rcases fr_i h with h | h
  · have h := Option.some.inj h
    subst h
    exact ⟨fI_r1, fM_r1⟩
  · have a2 := fr_fX12_order_L51 _ _ _ _ _ _ _ h
    exact ⟨a2.1.tr (by decide) fI_r1, a2.2.tr (by decide) fM_r1⟩
theorem fr_fX12_order_J31 {N : Nat} {x1 : Int32} {x2 : Int32} {x3 : Int32} {I0_j31 : Nat → Int32} {L0_j31 : Int64} {M0_j31 : Nat → Nat → Int32} {R} (h : fX12_order_J31 N x1 x2 x3 I0_j31 L0_j31 M0_j31 = some R) : Eqo fwI_X12_order R.2.1 I0_j31 ∧ Eqo fwM_X12_order R.2.2.2 M0_j31 := by
  unfold fX12_order_J31 at h
  have a1 := fr_fX12_order_J36 h
  exact ⟨a1.1.tr (by decide) (Eqo.refl fwI_X12_order I0_j31), a1.2.tr (by decide) (Eqo.refl fwM_X12_order M0_j31)⟩
theorem fr_fX12_order {N : Nat} {I0 : Nat → Int32} {L0 : Int64} {M0 : Nat → Nat → Int32} {x1 : Int32} {x2 : Int32} {x3 : Int32} {R} (h : fX12_order N I0 L0 M0 x1 x2 x3 = some R) : Eqo fwI_X12_order R.2.1 I0 ∧ Eqo fwM_X12_order R.2.2.2 M0 := by
  unfold fX12_order at h
  obtain ⟨I0_16, e_I0_16, h⟩ := wb_v h
  have f_I0_16 := Eqo.eq e_I0_16 (Eqo.u (by decide) (Eqo.refl fwI_X12_order I0))
  obtain ⟨r17, e_r17, h⟩ := wb_b h
  have a1 := fr_fX12_isBook e_r17
  have fI_r17 := a1.1.tr (W := fwI_X12_order) (by decide) f_I0_16
  have fM_r17 := a1.2.tr (W := fwM_X12_order) (by decide) (Eqo.refl fwM_X12_order M0)
  rcases fr_i h with h | h
  · have h := Option.some.inj h
    subst h
    exact ⟨fI_r17, fM_r17⟩
  · obtain ⟨r18, e_r18, h⟩ := wb_b h
    have a2 := fr_fX12_isBook e_r18
    have fI_r18 := a2.1.tr (W := fwI_X12_order) (by decide) fI_r17
    have fM_r18 := a2.2.tr (W := fwM_X12_order) (by decide) fM_r17
    rcases fr_i h with h | h
    · have h := Option.some.inj h
      subst h
      exact ⟨fI_r18, fM_r18⟩
    · rcases fr_i h with h | h
      · have a3 := fr_fX12_order_J31 h
        exact ⟨a3.1.tr (by decide) fI_r18, a3.2.tr (by decide) fM_r18⟩
      · rcases fr_i h with h | h
        · have a4 := fr_fX12_order_J31 h
          exact ⟨a4.1.tr (by decide) fI_r18, a4.2.tr (by decide) fM_r18⟩
        · have a5 := fr_fX12_order_J36 h
          exact ⟨a5.1.tr (by decide) fI_r18, a5.2.tr (by decide) fM_r18⟩
abbrev fwI_X12_isNumber : List Nat := [0]
abbrev fwM_X12_isNumber : List Nat := []
theorem fr_fX12_isNumber {N : Nat} {I0 : Nat → Int32} {L0 : Int64} {M0 : Nat → Nat → Int32} {x1 : Int32} {R} (h : fX12_isNumber N I0 L0 M0 x1 = some R) : Eqo fwI_X12_isNumber R.2.1 I0 ∧ Eqo fwM_X12_isNumber R.2.2.2 M0 := by
  unfold fX12_isNumber at h
  rcases fr_i h with h | h
  · obtain ⟨r1, e_r1, h⟩ := wb_b h
    have a1 := fr_fX12_right e_r1
    have fI_r1 := a1.1.tr (W := fwI_X12_isNumber) (by decide) (Eqo.refl fwI_X12_isNumber I0)
    have fM_r1 := a1.2.tr (W := fwM_X12_isNumber) (by decide) (Eqo.refl fwM_X12_isNumber M0)
    rcases fr_i h with h | h
    · have h := Option.some.inj h
      subst h
      exact ⟨fI_r1, fM_r1⟩
    · cases h
  · rcases fr_i h with h | h
    · obtain ⟨r2, e_r2, h⟩ := wb_b h
      have a2 := fr_fX12_right e_r2
      have fI_r2 := a2.1.tr (W := fwI_X12_isNumber) (by decide) (Eqo.refl fwI_X12_isNumber I0)
      have fM_r2 := a2.2.tr (W := fwM_X12_isNumber) (by decide) (Eqo.refl fwM_X12_isNumber M0)
      rcases fr_i h with h | h
      · have h := Option.some.inj h
        subst h
        exact ⟨fI_r2, fM_r2⟩
      · cases h
    · obtain ⟨r3, e_r3, h⟩ := wb_b h
      have a3 := fr_fX12_right e_r3
      have fI_r3 := a3.1.tr (W := fwI_X12_isNumber) (by decide) (Eqo.refl fwI_X12_isNumber I0)
      have fM_r3 := a3.2.tr (W := fwM_X12_isNumber) (by decide) (Eqo.refl fwM_X12_isNumber M0)
      rcases fr_i h with h | h
      · have h := Option.some.inj h
        subst h
        exact ⟨fI_r3, fM_r3⟩
      · cases h
abbrev fwI_X12_same : List Nat := [0]
abbrev fwM_X12_same : List Nat := []
theorem fr_fX12_same {N : Nat} {I0 : Nat → Int32} {L0 : Int64} {M0 : Nat → Nat → Int32} {x1 : Int32} {x2 : Int32} {x3 : Int32} {R} (h : fX12_same N I0 L0 M0 x1 x2 x3 = some R) : Eqo fwI_X12_same R.2.1 I0 ∧ Eqo fwM_X12_same R.2.2.2 M0 := by
  unfold fX12_same at h
  obtain ⟨I0_1, e_I0_1, h⟩ := wb_v h
  have f_I0_1 := Eqo.eq e_I0_1 (Eqo.u (by decide) (Eqo.refl fwI_X12_same I0))
  obtain ⟨r2, -, h⟩ := wb_b h
  obtain ⟨r3, e_r3, h⟩ := wb_b h
  have a1 := fr_fX12_right e_r3
  have fI_r3 := a1.1.tr (W := fwI_X12_same) (by decide) f_I0_1
  have fM_r3 := a1.2.tr (W := fwM_X12_same) (by decide) (Eqo.refl fwM_X12_same M0)
  rcases fr_i h with h | h
  · have h := Option.some.inj h
    subst h
    exact ⟨fI_r3, fM_r3⟩
  · obtain ⟨r4, e_r4, h⟩ := wb_b h
    have a2 := fr_fX12_isNumber e_r4
    have fI_r4 := a2.1.tr (W := fwI_X12_same) (by decide) fI_r3
    have fM_r4 := a2.2.tr (W := fwM_X12_same) (by decide) fM_r3
    rcases fr_i h with h | h
    · have h := Option.some.inj h
      subst h
      exact ⟨fI_r4, fM_r4⟩
    · obtain ⟨r5, e_r5, h⟩ := wb_b h
      have a3 := fr_fX12_isNumber e_r5
      have fI_r5 := a3.1.tr (W := fwI_X12_same) (by decide) fI_r4
      have fM_r5 := a3.2.tr (W := fwM_X12_same) (by decide) fM_r4
      rcases fr_i h with h | h
      · have h := Option.some.inj h
        subst h
        exact ⟨fI_r5, fM_r5⟩
      · obtain ⟨r6, -, h⟩ := wb_b h
        rcases fr_i h with h | h
        · have h := Option.some.inj h
          subst h
          exact ⟨fI_r5, fM_r5⟩
        · cases h
abbrev fwI_X12_births : List Nat := [0]
abbrev fwM_X12_births : List Nat := [31]
theorem fr_fX12_births_L211 {N : Nat} {x1 : Int32} {x2 : Int32} {g43 : (Nat → Int32) → Int64 → (Nat → Nat → Int32) → Int32 → Option (Int32 × (Nat → Int32) × Int64 × (Nat → Nat → Int32))} {g64 : (Nat → Int32) → Int64 → (Nat → Nat → Int32) → Int32 → Option (Int32 × (Nat → Int32) × Int64 × (Nat → Nat → Int32))} (hg43 : ∀ q0 q1 q2 q3 R, g43 q0 q1 q2 q3 = some R → Eqo fwI_X12_births R.2.1 q0 ∧ Eqo fwM_X12_births R.2.2.2 q2) (hg64 : ∀ q0 q1 q2 q3 R, g64 q0 q1 q2 q3 = some R → Eqo fwI_X12_births R.2.1 q0 ∧ Eqo fwM_X12_births R.2.2.2 q2) : ∀ fu I0_l211 L0_l211 M0_l211 y211_4 y211_5 R, fX12_births_L211 N x1 x2 g43 g64 fu I0_l211 L0_l211 M0_l211 y211_4 y211_5 = some R → Eqo fwI_X12_births R.2.1 I0_l211 ∧ Eqo fwM_X12_births R.2.2.2 M0_l211 := by
  intro fu
  induction fu with
  | zero => intro I0_l211 L0_l211 M0_l211 y211_4 y211_5 R h; cases (show none = some R from h)
  | succ fu ih =>
    intro I0_l211 L0_l211 M0_l211 y211_4 y211_5 R h
    rw [fX12_births_L211.eq_2] at h
    rcases fr_i h with h | h
    · have h := Option.some.inj h
      subst h
      exact ⟨(Eqo.refl fwI_X12_births I0_l211), (Eqo.refl fwM_X12_births M0_l211)⟩
    · obtain ⟨-, h⟩ := wb_n h
      rcases fr_i h with h | h
      · obtain ⟨r4, -, h⟩ := wb_b h
        rcases fr_i h with h | h
        · obtain ⟨v5, -, h⟩ := wb_v h
          obtain ⟨v6, -, h⟩ := wb_v h
          have a1 := ih _ _ _ _ _ _ h
          exact ⟨a1.1.tr (by decide) (Eqo.refl fwI_X12_births I0_l211), a1.2.tr (by decide) (Eqo.refl fwM_X12_births M0_l211)⟩
        · obtain ⟨v7, -, h⟩ := wb_v h
          obtain ⟨v8, -, h⟩ := wb_v h
          have a2 := ih _ _ _ _ _ _ h
          exact ⟨a2.1.tr (by decide) (Eqo.refl fwI_X12_births I0_l211), a2.2.tr (by decide) (Eqo.refl fwM_X12_births M0_l211)⟩
      · obtain ⟨v2, -, h⟩ := wb_v h
        obtain ⟨v3, -, h⟩ := wb_v h
        have a3 := ih _ _ _ _ _ _ h
        exact ⟨a3.1.tr (by decide) (Eqo.refl fwI_X12_births I0_l211), a3.2.tr (by decide) (Eqo.refl fwM_X12_births M0_l211)⟩
theorem fr_fX12_births_J156 {N : Nat} {x1 : Int32} {x2 : Int32} {y73_4 : Int32} {g43 : (Nat → Int32) → Int64 → (Nat → Nat → Int32) → Int32 → Option (Int32 × (Nat → Int32) × Int64 × (Nat → Nat → Int32))} {g64 : (Nat → Int32) → Int64 → (Nat → Nat → Int32) → Int32 → Option (Int32 × (Nat → Int32) × Int64 × (Nat → Nat → Int32))} {g73 : (Nat → Int32) → Int64 → (Nat → Nat → Int32) → Int32 → Int32 → Option (Int32 × (Nat → Int32) × Int64 × (Nat → Nat → Int32))} {g83 : (Nat → Int32) → Int64 → (Nat → Nat → Int32) → Int32 → Int32 → Option (Int32 × (Nat → Int32) × Int64 × (Nat → Nat → Int32))} {I0_j156 : Nat → Int32} {L0_j156 : Int64} {M0_j156 : Nat → Nat → Int32} {y156_5 : Int32} {z156_0 : Int32} (hg43 : ∀ q0 q1 q2 q3 R, g43 q0 q1 q2 q3 = some R → Eqo fwI_X12_births R.2.1 q0 ∧ Eqo fwM_X12_births R.2.2.2 q2) (hg64 : ∀ q0 q1 q2 q3 R, g64 q0 q1 q2 q3 = some R → Eqo fwI_X12_births R.2.1 q0 ∧ Eqo fwM_X12_births R.2.2.2 q2) (hg73 : ∀ q0 q1 q2 q3 q4 R, g73 q0 q1 q2 q3 q4 = some R → Eqo fwI_X12_births R.2.1 q0 ∧ Eqo fwM_X12_births R.2.2.2 q2) (hg83 : ∀ q0 q1 q2 q3 q4 R, g83 q0 q1 q2 q3 q4 = some R → Eqo fwI_X12_births R.2.1 q0 ∧ Eqo fwM_X12_births R.2.2.2 q2) {R} (h : fX12_births_J156 N x1 x2 y73_4 g43 g64 g73 g83 I0_j156 L0_j156 M0_j156 y156_5 z156_0 = some R) : Eqo fwI_X12_births R.2.1 I0_j156 ∧ Eqo fwM_X12_births R.2.2.2 M0_j156 := by
  unfold fX12_births_J156 at h
  obtain ⟨-, h⟩ := wb_n h
  obtain ⟨M0_9, e_M0_9, h⟩ := wb_v h
  have f_M0_9 := Eqo.eq e_M0_9 (Eqo.m (by decide) (Eqo.refl fwM_X12_births M0_j156))
  obtain ⟨-, h⟩ := wb_n h
  obtain ⟨M0_10, e_M0_10, h⟩ := wb_v h
  have f_M0_10 := Eqo.eq e_M0_10 (Eqo.m (by decide) f_M0_9)
  obtain ⟨v11, -, h⟩ := wb_v h
  have a1 := hg83 _ _ _ _ _ _ h
  exact ⟨a1.1.tr (by decide) (Eqo.refl fwI_X12_births I0_j156), a1.2.tr (by decide) f_M0_10⟩
theorem fr_fX12_births_L83 {N : Nat} {x1 : Int32} {x2 : Int32} {y73_4 : Int32} {g43 : (Nat → Int32) → Int64 → (Nat → Nat → Int32) → Int32 → Option (Int32 × (Nat → Int32) × Int64 × (Nat → Nat → Int32))} {g64 : (Nat → Int32) → Int64 → (Nat → Nat → Int32) → Int32 → Option (Int32 × (Nat → Int32) × Int64 × (Nat → Nat → Int32))} {g73 : (Nat → Int32) → Int64 → (Nat → Nat → Int32) → Int32 → Int32 → Option (Int32 × (Nat → Int32) × Int64 × (Nat → Nat → Int32))} (hg43 : ∀ q0 q1 q2 q3 R, g43 q0 q1 q2 q3 = some R → Eqo fwI_X12_births R.2.1 q0 ∧ Eqo fwM_X12_births R.2.2.2 q2) (hg64 : ∀ q0 q1 q2 q3 R, g64 q0 q1 q2 q3 = some R → Eqo fwI_X12_births R.2.1 q0 ∧ Eqo fwM_X12_births R.2.2.2 q2) (hg73 : ∀ q0 q1 q2 q3 q4 R, g73 q0 q1 q2 q3 q4 = some R → Eqo fwI_X12_births R.2.1 q0 ∧ Eqo fwM_X12_births R.2.2.2 q2) : ∀ fu I0_l83 L0_l83 M0_l83 y83_3 y83_5 R, fX12_births_L83 N x1 x2 y73_4 g43 g64 g73 fu I0_l83 L0_l83 M0_l83 y83_3 y83_5 = some R → Eqo fwI_X12_births R.2.1 I0_l83 ∧ Eqo fwM_X12_births R.2.2.2 M0_l83 := by
  intro fu
  induction fu with
  | zero => intro I0_l83 L0_l83 M0_l83 y83_3 y83_5 R h; cases (show none = some R from h)
  | succ fu ih =>
    intro I0_l83 L0_l83 M0_l83 y83_3 y83_5 R h
    rw [fX12_births_L83.eq_2] at h
    rcases fr_i h with h | h
    · obtain ⟨v12, -, h⟩ := wb_v h
      have a1 := hg73 _ _ _ _ _ _ h
      exact ⟨a1.1.tr (by decide) (Eqo.refl fwI_X12_births I0_l83), a1.2.tr (by decide) (Eqo.refl fwM_X12_births M0_l83)⟩
    · obtain ⟨-, h⟩ := wb_n h
      obtain ⟨-, h⟩ := wb_n h
      rcases fr_i h with h | h
      · obtain ⟨v13, -, h⟩ := wb_v h
        have a2 := ih _ _ _ _ _ _ h
        exact ⟨a2.1.tr (by decide) (Eqo.refl fwI_X12_births I0_l83), a2.2.tr (by decide) (Eqo.refl fwM_X12_births M0_l83)⟩
      · obtain ⟨r14, -, h⟩ := wb_b h
        rcases fr_i h with h | h
        · obtain ⟨v15, -, h⟩ := wb_v h
          have a3 := ih _ _ _ _ _ _ h
          exact ⟨a3.1.tr (by decide) (Eqo.refl fwI_X12_births I0_l83), a3.2.tr (by decide) (Eqo.refl fwM_X12_births M0_l83)⟩
        · obtain ⟨-, h⟩ := wb_n h
          obtain ⟨-, h⟩ := wb_n h
          rcases fr_i h with h | h
          · obtain ⟨-, h⟩ := wb_n h
            have c106 : ∀ q0 q1 q2 q3 q4 R, (fX12_births_L83 N x1 x2 y73_4 g43 g64 g73 fu q0 q1 q2 q3 q4) = some R → Eqo fwI_X12_births R.2.1 q0 ∧ Eqo fwM_X12_births R.2.2.2 q2 := by
                intro q0 q1 q2 q3 q4 R h
                have a105 := ih _ _ _ _ _ _ h
                exact ⟨a105.1.tr (by decide) (Eqo.refl fwI_X12_births q0), a105.2.tr (by decide) (Eqo.refl fwM_X12_births q2)⟩
            have a4 := fr_fX12_births_J156 hg43 hg64 hg73 c106 h
            exact ⟨a4.1.tr (by decide) (Eqo.refl fwI_X12_births I0_l83), a4.2.tr (by decide) (Eqo.refl fwM_X12_births M0_l83)⟩
          · obtain ⟨-, h⟩ := wb_n h
            have c209 : ∀ q0 q1 q2 q3 q4 R, (fX12_births_L83 N x1 x2 y73_4 g43 g64 g73 fu q0 q1 q2 q3 q4) = some R → Eqo fwI_X12_births R.2.1 q0 ∧ Eqo fwM_X12_births R.2.2.2 q2 := by
                intro q0 q1 q2 q3 q4 R h
                have a208 := ih _ _ _ _ _ _ h
                exact ⟨a208.1.tr (by decide) (Eqo.refl fwI_X12_births q0), a208.2.tr (by decide) (Eqo.refl fwM_X12_births q2)⟩
            have a107 := fr_fX12_births_J156 hg43 hg64 hg73 c209 h
            exact ⟨a107.1.tr (by decide) (Eqo.refl fwI_X12_births I0_l83), a107.2.tr (by decide) (Eqo.refl fwM_X12_births M0_l83)⟩
theorem fr_fX12_births_L73 {N : Nat} {x1 : Int32} {x2 : Int32} {g43 : (Nat → Int32) → Int64 → (Nat → Nat → Int32) → Int32 → Option (Int32 × (Nat → Int32) × Int64 × (Nat → Nat → Int32))} {g64 : (Nat → Int32) → Int64 → (Nat → Nat → Int32) → Int32 → Option (Int32 × (Nat → Int32) × Int64 × (Nat → Nat → Int32))} (hg43 : ∀ q0 q1 q2 q3 R, g43 q0 q1 q2 q3 = some R → Eqo fwI_X12_births R.2.1 q0 ∧ Eqo fwM_X12_births R.2.2.2 q2) (hg64 : ∀ q0 q1 q2 q3 R, g64 q0 q1 q2 q3 = some R → Eqo fwI_X12_births R.2.1 q0 ∧ Eqo fwM_X12_births R.2.2.2 q2) : ∀ fu I0_l73 L0_l73 M0_l73 y73_3 y73_4 R, fX12_births_L73 N x1 x2 g43 g64 fu I0_l73 L0_l73 M0_l73 y73_3 y73_4 = some R → Eqo fwI_X12_births R.2.1 I0_l73 ∧ Eqo fwM_X12_births R.2.2.2 M0_l73 := by
  intro fu
  induction fu with
  | zero => intro I0_l73 L0_l73 M0_l73 y73_3 y73_4 R h; cases (show none = some R from h)
  | succ fu ih =>
    intro I0_l73 L0_l73 M0_l73 y73_3 y73_4 R h
    rw [fX12_births_L73.eq_2] at h
    rcases fr_i h with h | h
    · have a1 := hg64 _ _ _ _ _ h
      exact ⟨a1.1.tr (by decide) (Eqo.refl fwI_X12_births I0_l73), a1.2.tr (by decide) (Eqo.refl fwM_X12_births M0_l73)⟩
    · have c104 : ∀ q0 q1 q2 q3 q4 R, (fX12_births_L73 N x1 x2 g43 g64 fu q0 q1 q2 q3 q4) = some R → Eqo fwI_X12_births R.2.1 q0 ∧ Eqo fwM_X12_births R.2.2.2 q2 := by
          intro q0 q1 q2 q3 q4 R h
          have a103 := ih _ _ _ _ _ _ h
          exact ⟨a103.1.tr (by decide) (Eqo.refl fwI_X12_births q0), a103.2.tr (by decide) (Eqo.refl fwM_X12_births q2)⟩
      have a2 := fr_fX12_births_L83 hg43 hg64 c104 _ _ _ _ _ _ _ h
      exact ⟨a2.1.tr (by decide) (Eqo.refl fwI_X12_births I0_l73), a2.2.tr (by decide) (Eqo.refl fwM_X12_births M0_l73)⟩
theorem fr_fX12_births_L64 {N : Nat} {x1 : Int32} {x2 : Int32} {g43 : (Nat → Int32) → Int64 → (Nat → Nat → Int32) → Int32 → Option (Int32 × (Nat → Int32) × Int64 × (Nat → Nat → Int32))} (hg43 : ∀ q0 q1 q2 q3 R, g43 q0 q1 q2 q3 = some R → Eqo fwI_X12_births R.2.1 q0 ∧ Eqo fwM_X12_births R.2.2.2 q2) : ∀ fu I0_l64 L0_l64 M0_l64 y64_3 R, fX12_births_L64 N x1 x2 g43 fu I0_l64 L0_l64 M0_l64 y64_3 = some R → Eqo fwI_X12_births R.2.1 I0_l64 ∧ Eqo fwM_X12_births R.2.2.2 M0_l64 := by
  intro fu
  induction fu with
  | zero => intro I0_l64 L0_l64 M0_l64 y64_3 R h; cases (show none = some R from h)
  | succ fu ih =>
    intro I0_l64 L0_l64 M0_l64 y64_3 R h
    rw [fX12_births_L64.eq_2] at h
    rcases fr_i h with h | h
    · rcases fr_i h with h | h
      · have c103 : ∀ q0 q1 q2 q3 R, (fX12_births_L64 N x1 x2 g43 fu q0 q1 q2 q3) = some R → Eqo fwI_X12_births R.2.1 q0 ∧ Eqo fwM_X12_births R.2.2.2 q2 := by
            intro q0 q1 q2 q3 R h
            have a102 := ih _ _ _ _ _ h
            exact ⟨a102.1.tr (by decide) (Eqo.refl fwI_X12_births q0), a102.2.tr (by decide) (Eqo.refl fwM_X12_births q2)⟩
        have a1 := fr_fX12_births_L211 hg43 c103 _ _ _ _ _ _ _ h
        exact ⟨a1.1.tr (by decide) (Eqo.refl fwI_X12_births I0_l64), a1.2.tr (by decide) (Eqo.refl fwM_X12_births M0_l64)⟩
      · obtain ⟨-, h⟩ := wb_n h
        have h := Option.some.inj h
        subst h
        exact ⟨(Eqo.refl fwI_X12_births I0_l64), (Eqo.refl fwM_X12_births M0_l64)⟩
    · have c206 : ∀ q0 q1 q2 q3 R, (fX12_births_L64 N x1 x2 g43 fu q0 q1 q2 q3) = some R → Eqo fwI_X12_births R.2.1 q0 ∧ Eqo fwM_X12_births R.2.2.2 q2 := by
          intro q0 q1 q2 q3 R h
          have a205 := ih _ _ _ _ _ h
          exact ⟨a205.1.tr (by decide) (Eqo.refl fwI_X12_births q0), a205.2.tr (by decide) (Eqo.refl fwM_X12_births q2)⟩
      have a104 := fr_fX12_births_L73 hg43 c206 _ _ _ _ _ _ _ h
      exact ⟨a104.1.tr (by decide) (Eqo.refl fwI_X12_births I0_l64), a104.2.tr (by decide) (Eqo.refl fwM_X12_births M0_l64)⟩
theorem fr_fX12_births_L43 {N : Nat} {x1 : Int32} {x2 : Int32} : ∀ fu I0_l43 L0_l43 M0_l43 y43_3 R, fX12_births_L43 N x1 x2 fu I0_l43 L0_l43 M0_l43 y43_3 = some R → Eqo fwI_X12_births R.2.1 I0_l43 ∧ Eqo fwM_X12_births R.2.2.2 M0_l43 := by
  intro fu
  induction fu with
  | zero => intro I0_l43 L0_l43 M0_l43 y43_3 R h; cases (show none = some R from h)
  | succ fu ih =>
    intro I0_l43 L0_l43 M0_l43 y43_3 R h
    rw [fX12_births_L43.eq_2] at h
    rcases fr_i h with h | h
    · have c103 : ∀ q0 q1 q2 q3 R, (fX12_births_L43 N x1 x2 fu q0 q1 q2 q3) = some R → Eqo fwI_X12_births R.2.1 q0 ∧ Eqo fwM_X12_births R.2.2.2 q2 := by
          intro q0 q1 q2 q3 R h
          have a102 := ih _ _ _ _ _ h
          exact ⟨a102.1.tr (by decide) (Eqo.refl fwI_X12_births q0), a102.2.tr (by decide) (Eqo.refl fwM_X12_births q2)⟩
      have a1 := fr_fX12_births_L64 c103 _ _ _ _ _ _ h
      exact ⟨a1.1.tr (by decide) (Eqo.refl fwI_X12_births I0_l43), a1.2.tr (by decide) (Eqo.refl fwM_X12_births M0_l43)⟩
    · obtain ⟨-, h⟩ := wb_n h
      obtain ⟨M0_16, e_M0_16, h⟩ := wb_v h
      have f_M0_16 := Eqo.eq e_M0_16 (Eqo.m (by decide) (Eqo.refl fwM_X12_births M0_l43))
      obtain ⟨v17, -, h⟩ := wb_v h
      have a104 := ih _ _ _ _ _ h
      exact ⟨a104.1.tr (by decide) (Eqo.refl fwI_X12_births I0_l43), a104.2.tr (by decide) f_M0_16⟩
theorem fr_fX12_births_J32 {N : Nat} {x1 : Int32} {x2 : Int32} {I0_j32 : Nat → Int32} {L0_j32 : Int64} {M0_j32 : Nat → Nat → Int32} {z32_0 : Int32} {R} (h : fX12_births_J32 N x1 x2 I0_j32 L0_j32 M0_j32 z32_0 = some R) : Eqo fwI_X12_births R.2.1 I0_j32 ∧ Eqo fwM_X12_births R.2.2.2 M0_j32 := by
  unfold fX12_births_J32 at h
  obtain ⟨r1, e_r1, h⟩ := wb_b h
  have a1 := fr_fX12_right e_r1
  have fI_r1 := a1.1.tr (W := fwI_X12_births) (by decide) (Eqo.refl fwI_X12_births I0_j32)
  have fM_r1 := a1.2.tr (W := fwM_X12_births) (by decide) (Eqo.refl fwM_X12_births M0_j32)
  rcases fr_i h with h | h
  · have h := Option.some.inj h
    subst h
    exact ⟨fI_r1, fM_r1⟩
  · have a2 := fr_fX12_births_L43 _ _ _ _ _ _ h
    exact ⟨a2.1.tr (by decide) fI_r1, a2.2.tr (by decide) fM_r1⟩
theorem fr_fX12_births_J31 {N : Nat} {x1 : Int32} {x2 : Int32} {I0_j31 : Nat → Int32} {L0_j31 : Int64} {M0_j31 : Nat → Nat → Int32} {R} (h : fX12_births_J31 N x1 x2 I0_j31 L0_j31 M0_j31 = some R) : Eqo fwI_X12_births R.2.1 I0_j31 ∧ Eqo fwM_X12_births R.2.2.2 M0_j31 := by
  unfold fX12_births_J31 at h
  have a1 := fr_fX12_births_J32 h
  exact ⟨a1.1.tr (by decide) (Eqo.refl fwI_X12_births I0_j31), a1.2.tr (by decide) (Eqo.refl fwM_X12_births M0_j31)⟩
theorem fr_fX12_births {N : Nat} {I0 : Nat → Int32} {L0 : Int64} {M0 : Nat → Nat → Int32} {x1 : Int32} {x2 : Int32} {R} (h : fX12_births N I0 L0 M0 x1 x2 = some R) : Eqo fwI_X12_births R.2.1 I0 ∧ Eqo fwM_X12_births R.2.2.2 M0 := by
  unfold fX12_births at h
  obtain ⟨I0_18, e_I0_18, h⟩ := wb_v h
  have f_I0_18 := Eqo.eq e_I0_18 (Eqo.u (by decide) (Eqo.refl fwI_X12_births I0))
  obtain ⟨r19, -, h⟩ := wb_b h
  rcases fr_i h with h | h
  · have a1 := fr_fX12_births_J31 h
    exact ⟨a1.1.tr (by decide) f_I0_18, a1.2.tr (by decide) (Eqo.refl fwM_X12_births M0)⟩
  · rcases fr_i h with h | h
    · have a2 := fr_fX12_births_J31 h
      exact ⟨a2.1.tr (by decide) f_I0_18, a2.2.tr (by decide) (Eqo.refl fwM_X12_births M0)⟩
    · rcases fr_i h with h | h
      · have a3 := fr_fX12_births_J31 h
        exact ⟨a3.1.tr (by decide) f_I0_18, a3.2.tr (by decide) (Eqo.refl fwM_X12_births M0)⟩
      · have a4 := fr_fX12_births_J32 h
        exact ⟨a4.1.tr (by decide) f_I0_18, a4.2.tr (by decide) (Eqo.refl fwM_X12_births M0)⟩
abbrev fwI_X12_count : List Nat := [0]
abbrev fwM_X12_count : List Nat := []
theorem fr_fX12_count_J103 {N : Nat} {x1 : Int32} {g81 : (Nat → Int32) → Int64 → (Nat → Nat → Int32) → Int32 → Int32 → Option (Int32 × (Nat → Int32) × Int64 × (Nat → Nat → Int32))} {I0_j103 : Nat → Int32} {L0_j103 : Int64} {M0_j103 : Nat → Nat → Int32} {y103_3 : Int32} {z103_0 : Int32} (hg81 : ∀ q0 q1 q2 q3 q4 R, g81 q0 q1 q2 q3 q4 = some R → Eqo fwI_X12_count R.2.1 q0 ∧ Eqo fwM_X12_count R.2.2.2 q2) {R} (h : fX12_count_J103 N x1 g81 I0_j103 L0_j103 M0_j103 y103_3 z103_0 = some R) : Eqo fwI_X12_count R.2.1 I0_j103 ∧ Eqo fwM_X12_count R.2.2.2 M0_j103 := by
  unfold fX12_count_J103 at h
  rcases fr_i h with h | h
  · obtain ⟨-, h⟩ := wb_n h
    rcases fr_i h with h | h
    · obtain ⟨v3, -, h⟩ := wb_v h
      obtain ⟨v4, -, h⟩ := wb_v h
      have a1 := hg81 _ _ _ _ _ _ h
      exact ⟨a1.1.tr (by decide) (Eqo.refl fwI_X12_count I0_j103), a1.2.tr (by decide) (Eqo.refl fwM_X12_count M0_j103)⟩
    · obtain ⟨v5, -, h⟩ := wb_v h
      obtain ⟨v6, -, h⟩ := wb_v h
      have a2 := hg81 _ _ _ _ _ _ h
      exact ⟨a2.1.tr (by decide) (Eqo.refl fwI_X12_count I0_j103), a2.2.tr (by decide) (Eqo.refl fwM_X12_count M0_j103)⟩
  · obtain ⟨v1, -, h⟩ := wb_v h
    obtain ⟨v2, -, h⟩ := wb_v h
    have a3 := hg81 _ _ _ _ _ _ h
    exact ⟨a3.1.tr (by decide) (Eqo.refl fwI_X12_count I0_j103), a3.2.tr (by decide) (Eqo.refl fwM_X12_count M0_j103)⟩
theorem fr_fX12_count_L81 {N : Nat} {x1 : Int32} : ∀ fu I0_l81 L0_l81 M0_l81 y81_2 y81_3 R, fX12_count_L81 N x1 fu I0_l81 L0_l81 M0_l81 y81_2 y81_3 = some R → Eqo fwI_X12_count R.2.1 I0_l81 ∧ Eqo fwM_X12_count R.2.2.2 M0_l81 := by
  intro fu
  induction fu with
  | zero => intro I0_l81 L0_l81 M0_l81 y81_2 y81_3 R h; cases (show none = some R from h)
  | succ fu ih =>
    intro I0_l81 L0_l81 M0_l81 y81_2 y81_3 R h
    rw [fX12_count_L81.eq_2] at h
    rcases fr_i h with h | h
    · rcases fr_i h with h | h
      · have h := Option.some.inj h
        subst h
        exact ⟨(Eqo.refl fwI_X12_count I0_l81), (Eqo.refl fwM_X12_count M0_l81)⟩
      · have h := Option.some.inj h
        subst h
        exact ⟨(Eqo.refl fwI_X12_count I0_l81), (Eqo.refl fwM_X12_count M0_l81)⟩
    · rcases fr_i h with h | h
      · obtain ⟨-, h⟩ := wb_n h
        rcases fr_i h with h | h
        · have c103 : ∀ q0 q1 q2 q3 q4 R, (fX12_count_L81 N x1 fu q0 q1 q2 q3 q4) = some R → Eqo fwI_X12_count R.2.1 q0 ∧ Eqo fwM_X12_count R.2.2.2 q2 := by
              intro q0 q1 q2 q3 q4 R h
              have a102 := ih _ _ _ _ _ _ h
              exact ⟨a102.1.tr (by decide) (Eqo.refl fwI_X12_count q0), a102.2.tr (by decide) (Eqo.refl fwM_X12_count q2)⟩
          have a1 := fr_fX12_count_J103 c103 h
          exact ⟨a1.1.tr (by decide) (Eqo.refl fwI_X12_count I0_l81), a1.2.tr (by decide) (Eqo.refl fwM_X12_count M0_l81)⟩
        · obtain ⟨v7, -, h⟩ := wb_v h
          obtain ⟨v8, -, h⟩ := wb_v h
          have a104 := ih _ _ _ _ _ _ h
          exact ⟨a104.1.tr (by decide) (Eqo.refl fwI_X12_count I0_l81), a104.2.tr (by decide) (Eqo.refl fwM_X12_count M0_l81)⟩
      · have c207 : ∀ q0 q1 q2 q3 q4 R, (fX12_count_L81 N x1 fu q0 q1 q2 q3 q4) = some R → Eqo fwI_X12_count R.2.1 q0 ∧ Eqo fwM_X12_count R.2.2.2 q2 := by
            intro q0 q1 q2 q3 q4 R h
            have a206 := ih _ _ _ _ _ _ h
            exact ⟨a206.1.tr (by decide) (Eqo.refl fwI_X12_count q0), a206.2.tr (by decide) (Eqo.refl fwM_X12_count q2)⟩
        have a105 := fr_fX12_count_J103 c207 h
        exact ⟨a105.1.tr (by decide) (Eqo.refl fwI_X12_count I0_l81), a105.2.tr (by decide) (Eqo.refl fwM_X12_count M0_l81)⟩
theorem fr_fX12_count_J79 {N : Nat} {x1 : Int32} {I0_j79 : Nat → Int32} {L0_j79 : Int64} {M0_j79 : Nat → Nat → Int32} {y79_2 : Int32} {R} (h : fX12_count_J79 N x1 I0_j79 L0_j79 M0_j79 y79_2 = some R) : Eqo fwI_X12_count R.2.1 I0_j79 ∧ Eqo fwM_X12_count R.2.2.2 M0_j79 := by
  unfold fX12_count_J79 at h
  have a1 := fr_fX12_count_L81 _ _ _ _ _ _ _ h
  exact ⟨a1.1.tr (by decide) (Eqo.refl fwI_X12_count I0_j79), a1.2.tr (by decide) (Eqo.refl fwM_X12_count M0_j79)⟩
theorem fr_fX12_count_L46 {N : Nat} {x1 : Int32} : ∀ fu I0_l46 L0_l46 M0_l46 y46_2 y46_3 R, fX12_count_L46 N x1 fu I0_l46 L0_l46 M0_l46 y46_2 y46_3 = some R → Eqo fwI_X12_count R.2.1 I0_l46 ∧ Eqo fwM_X12_count R.2.2.2 M0_l46 := by
  intro fu
  induction fu with
  | zero => intro I0_l46 L0_l46 M0_l46 y46_2 y46_3 R h; cases (show none = some R from h)
  | succ fu ih =>
    intro I0_l46 L0_l46 M0_l46 y46_2 y46_3 R h
    rw [fX12_count_L46.eq_2] at h
    rcases fr_i h with h | h
    · have a1 := fr_fX12_count_J79 h
      exact ⟨a1.1.tr (by decide) (Eqo.refl fwI_X12_count I0_l46), a1.2.tr (by decide) (Eqo.refl fwM_X12_count M0_l46)⟩
    · rcases fr_i h with h | h
      · obtain ⟨r12, -, h⟩ := wb_b h
        rcases fr_i h with h | h
        · obtain ⟨v13, -, h⟩ := wb_v h
          obtain ⟨v14, -, h⟩ := wb_v h
          have a2 := ih _ _ _ _ _ _ h
          exact ⟨a2.1.tr (by decide) (Eqo.refl fwI_X12_count I0_l46), a2.2.tr (by decide) (Eqo.refl fwM_X12_count M0_l46)⟩
        · obtain ⟨v15, -, h⟩ := wb_v h
          obtain ⟨v16, -, h⟩ := wb_v h
          have a3 := ih _ _ _ _ _ _ h
          exact ⟨a3.1.tr (by decide) (Eqo.refl fwI_X12_count I0_l46), a3.2.tr (by decide) (Eqo.refl fwM_X12_count M0_l46)⟩
      · have a4 := fr_fX12_count_J79 h
        exact ⟨a4.1.tr (by decide) (Eqo.refl fwI_X12_count I0_l46), a4.2.tr (by decide) (Eqo.refl fwM_X12_count M0_l46)⟩
theorem fr_fX12_count {N : Nat} {I0 : Nat → Int32} {L0 : Int64} {M0 : Nat → Nat → Int32} {x1 : Int32} {R} (h : fX12_count N I0 L0 M0 x1 = some R) : Eqo fwI_X12_count R.2.1 I0 ∧ Eqo fwM_X12_count R.2.2.2 M0 := by
  unfold fX12_count at h
  obtain ⟨I0_9, e_I0_9, h⟩ := wb_v h
  have f_I0_9 := Eqo.eq e_I0_9 (Eqo.u (by decide) (Eqo.refl fwI_X12_count I0))
  obtain ⟨r10, -, h⟩ := wb_b h
  obtain ⟨r11, e_r11, h⟩ := wb_b h
  have a1 := fr_fX12_right e_r11
  have fI_r11 := a1.1.tr (W := fwI_X12_count) (by decide) f_I0_9
  have fM_r11 := a1.2.tr (W := fwM_X12_count) (by decide) (Eqo.refl fwM_X12_count M0)
  rcases fr_i h with h | h
  · have h := Option.some.inj h
    subst h
    exact ⟨fI_r11, fM_r11⟩
  · rcases fr_i h with h | h
    · have a2 := fr_fX12_count_L46 _ _ _ _ _ _ _ h
      exact ⟨a2.1.tr (by decide) fI_r11, a2.2.tr (by decide) fM_r11⟩
    · rcases fr_i h with h | h
      · have h := Option.some.inj h
        subst h
        exact ⟨fI_r11, fM_r11⟩
      · have h := Option.some.inj h
        subst h
        exact ⟨fI_r11, fM_r11⟩
abbrev fwI_X12_life : List Nat := [0]
abbrev fwM_X12_life : List Nat := [32, 33]
theorem fr_fX12_life {N : Nat} {I0 : Nat → Int32} {L0 : Int64} {M0 : Nat → Nat → Int32} {x1 : Int32} {x2 : Int32} {x3 : Int32} {R} (h : fX12_life N I0 L0 M0 x1 x2 x3 = some R) : Eqo fwI_X12_life R.2.1 I0 ∧ Eqo fwM_X12_life R.2.2.2 M0 := by
  unfold fX12_life at h
  obtain ⟨I0_1, e_I0_1, h⟩ := wb_v h
  have f_I0_1 := Eqo.eq e_I0_1 (Eqo.u (by decide) (Eqo.refl fwI_X12_life I0))
  obtain ⟨r2, -, h⟩ := wb_b h
  obtain ⟨r3, e_r3, h⟩ := wb_b h
  have a1 := fr_fX12_right e_r3
  have fI_r3 := a1.1.tr (W := fwI_X12_life) (by decide) f_I0_1
  have fM_r3 := a1.2.tr (W := fwM_X12_life) (by decide) (Eqo.refl fwM_X12_life M0)
  rcases fr_i h with h | h
  · have h := Option.some.inj h
    subst h
    exact ⟨fI_r3, fM_r3⟩
  · obtain ⟨r4, -, h⟩ := wb_b h
    rcases fr_i h with h | h
    · have h := Option.some.inj h
      subst h
      exact ⟨fI_r3, fM_r3⟩
    · obtain ⟨r5, -, h⟩ := wb_b h
      rcases fr_i h with h | h
      · have h := Option.some.inj h
        subst h
        exact ⟨fI_r3, fM_r3⟩
      · obtain ⟨-, h⟩ := wb_n h
        obtain ⟨M0_6, e_M0_6, h⟩ := wb_v h
        have f_M0_6 := Eqo.eq e_M0_6 (Eqo.m (by decide) fM_r3)
        obtain ⟨-, h⟩ := wb_n h
        obtain ⟨M0_7, e_M0_7, h⟩ := wb_v h
        have f_M0_7 := Eqo.eq e_M0_7 (Eqo.m (by decide) f_M0_6)
        have h := Option.some.inj h
        subst h
        exact ⟨fI_r3, f_M0_7⟩
abbrev fwI_X12_fate : List Nat := [0]
abbrev fwM_X12_fate : List Nat := [34]
theorem fr_fX12_fate {N : Nat} {I0 : Nat → Int32} {L0 : Int64} {M0 : Nat → Nat → Int32} {x1 : Int32} {x2 : Int32} {R} (h : fX12_fate N I0 L0 M0 x1 x2 = some R) : Eqo fwI_X12_fate R.2.1 I0 ∧ Eqo fwM_X12_fate R.2.2.2 M0 := by
  unfold fX12_fate at h
  obtain ⟨I0_1, e_I0_1, h⟩ := wb_v h
  have f_I0_1 := Eqo.eq e_I0_1 (Eqo.u (by decide) (Eqo.refl fwI_X12_fate I0))
  obtain ⟨r2, -, h⟩ := wb_b h
  obtain ⟨r3, e_r3, h⟩ := wb_b h
  have a1 := fr_fX12_right e_r3
  have fI_r3 := a1.1.tr (W := fwI_X12_fate) (by decide) f_I0_1
  have fM_r3 := a1.2.tr (W := fwM_X12_fate) (by decide) (Eqo.refl fwM_X12_fate M0)
  rcases fr_i h with h | h
  · have h := Option.some.inj h
    subst h
    exact ⟨fI_r3, fM_r3⟩
  · obtain ⟨r4, -, h⟩ := wb_b h
    rcases fr_i h with h | h
    · have h := Option.some.inj h
      subst h
      exact ⟨fI_r3, fM_r3⟩
    · obtain ⟨-, h⟩ := wb_n h
      obtain ⟨M0_5, e_M0_5, h⟩ := wb_v h
      have f_M0_5 := Eqo.eq e_M0_5 (Eqo.m (by decide) fM_r3)
      have h := Option.some.inj h
      subst h
      exact ⟨fI_r3, f_M0_5⟩
abbrev fwI_X12_swaps : List Nat := []
abbrev fwM_X12_swaps : List Nat := [36]
theorem fr_fX12_swaps {N : Nat} {I0 : Nat → Int32} {L0 : Int64} {M0 : Nat → Nat → Int32} {x1 : Int32} {x2 : Int32} {R} (h : fX12_swaps N I0 L0 M0 x1 x2 = some R) : Eqo fwI_X12_swaps R.1 I0 ∧ Eqo fwM_X12_swaps R.2.2 M0 := by
  unfold fX12_swaps at h
  obtain ⟨-, h⟩ := wb_n h
  obtain ⟨v1, -, h⟩ := wb_v h
  obtain ⟨-, h⟩ := wb_n h
  obtain ⟨-, h⟩ := wb_n h
  obtain ⟨M0_2, e_M0_2, h⟩ := wb_v h
  have f_M0_2 := Eqo.eq e_M0_2 (Eqo.m (by decide) (Eqo.refl fwM_X12_swaps M0))
  obtain ⟨-, h⟩ := wb_n h
  obtain ⟨M0_3, e_M0_3, h⟩ := wb_v h
  have f_M0_3 := Eqo.eq e_M0_3 (Eqo.m (by decide) f_M0_2)
  have h := Option.some.inj h
  subst h
  exact ⟨(Eqo.refl fwI_X12_swaps I0), f_M0_3⟩
abbrev fwI_X12_turns : List Nat := []
abbrev fwM_X12_turns : List Nat := [36]
theorem fr_fX12_turns_L86 {N : Nat} {g47 : (Nat → Int32) → Int64 → (Nat → Nat → Int32) → Int32 → Option (Int32 × (Nat → Int32) × Int64 × (Nat → Nat → Int32))} (hg47 : ∀ q0 q1 q2 q3 R, g47 q0 q1 q2 q3 = some R → Eqo fwI_X12_turns R.2.1 q0 ∧ Eqo fwM_X12_turns R.2.2.2 q2) : ∀ fu I0_l86 L0_l86 M0_l86 y86_3 y86_4 R, fX12_turns_L86 N g47 fu I0_l86 L0_l86 M0_l86 y86_3 y86_4 = some R → Eqo fwI_X12_turns R.2.1 I0_l86 ∧ Eqo fwM_X12_turns R.2.2.2 M0_l86 := by
  intro fu
  induction fu with
  | zero => intro I0_l86 L0_l86 M0_l86 y86_3 y86_4 R h; cases (show none = some R from h)
  | succ fu ih =>
    intro I0_l86 L0_l86 M0_l86 y86_3 y86_4 R h
    rw [fX12_turns_L86.eq_2] at h
    rcases fr_i h with h | h
    · have h := Option.some.inj h
      subst h
      exact ⟨(Eqo.refl fwI_X12_turns I0_l86), (Eqo.refl fwM_X12_turns M0_l86)⟩
    · obtain ⟨r5, e_r5, h⟩ := wb_b h
      have a1 := fr_fX12_swaps e_r5
      have fI_r5 := a1.1.tr (W := fwI_X12_turns) (by decide) (Eqo.refl fwI_X12_turns I0_l86)
      have fM_r5 := a1.2.tr (W := fwM_X12_turns) (by decide) (Eqo.refl fwM_X12_turns M0_l86)
      obtain ⟨v6, -, h⟩ := wb_v h
      obtain ⟨v7, -, h⟩ := wb_v h
      have a2 := ih _ _ _ _ _ _ h
      exact ⟨a2.1.tr (by decide) fI_r5, a2.2.tr (by decide) fM_r5⟩
theorem fr_fX12_turns_L47 {N : Nat} {y34_1 : Int32} : ∀ fu I0_l47 L0_l47 M0_l47 y47_2 R, fX12_turns_L47 N y34_1 fu I0_l47 L0_l47 M0_l47 y47_2 = some R → Eqo fwI_X12_turns R.2.1 I0_l47 ∧ Eqo fwM_X12_turns R.2.2.2 M0_l47 := by
  intro fu
  induction fu with
  | zero => intro I0_l47 L0_l47 M0_l47 y47_2 R h; cases (show none = some R from h)
  | succ fu ih =>
    intro I0_l47 L0_l47 M0_l47 y47_2 R h
    rw [fX12_turns_L47.eq_2] at h
    obtain ⟨-, h⟩ := wb_n h
    obtain ⟨-, h⟩ := wb_n h
    rcases fr_i h with h | h
    · obtain ⟨r2, e_r2, h⟩ := wb_b h
      have a1 := fr_fX12_swaps e_r2
      have fI_r2 := a1.1.tr (W := fwI_X12_turns) (by decide) (Eqo.refl fwI_X12_turns I0_l47)
      have fM_r2 := a1.2.tr (W := fwM_X12_turns) (by decide) (Eqo.refl fwM_X12_turns M0_l47)
      obtain ⟨v3, -, h⟩ := wb_v h
      obtain ⟨v4, -, h⟩ := wb_v h
      have c104 : ∀ q0 q1 q2 q3 R, (fX12_turns_L47 N y34_1 fu q0 q1 q2 q3) = some R → Eqo fwI_X12_turns R.2.1 q0 ∧ Eqo fwM_X12_turns R.2.2.2 q2 := by
          intro q0 q1 q2 q3 R h
          have a103 := ih _ _ _ _ _ h
          exact ⟨a103.1.tr (by decide) (Eqo.refl fwI_X12_turns q0), a103.2.tr (by decide) (Eqo.refl fwM_X12_turns q2)⟩
      have a2 := fr_fX12_turns_L86 c104 _ _ _ _ _ _ _ h
      exact ⟨a2.1.tr (by decide) fI_r2, a2.2.tr (by decide) fM_r2⟩
    · obtain ⟨v8, -, h⟩ := wb_v h
      have a105 := ih _ _ _ _ _ h
      exact ⟨a105.1.tr (by decide) (Eqo.refl fwI_X12_turns I0_l47), a105.2.tr (by decide) (Eqo.refl fwM_X12_turns M0_l47)⟩
theorem fr_fX12_turns_J34 {N : Nat} {I0_j34 : Nat → Int32} {L0_j34 : Int64} {M0_j34 : Nat → Nat → Int32} {y34_1 : Int32} {R} (h : fX12_turns_J34 N I0_j34 L0_j34 M0_j34 y34_1 = some R) : Eqo fwI_X12_turns R.2.1 I0_j34 ∧ Eqo fwM_X12_turns R.2.2.2 M0_j34 := by
  unfold fX12_turns_J34 at h
  rcases fr_i h with h | h
  · obtain ⟨v1, -, h⟩ := wb_v h
    have a1 := fr_fX12_turns_L47 _ _ _ _ _ _ h
    exact ⟨a1.1.tr (by decide) (Eqo.refl fwI_X12_turns I0_j34), a1.2.tr (by decide) (Eqo.refl fwM_X12_turns M0_j34)⟩
  · have h := Option.some.inj h
    subst h
    exact ⟨(Eqo.refl fwI_X12_turns I0_j34), (Eqo.refl fwM_X12_turns M0_j34)⟩
theorem fr_fX12_turns_L7 {N : Nat} : ∀ fu I0_l7 L0_l7 M0_l7 y7_1 R, fX12_turns_L7 N fu I0_l7 L0_l7 M0_l7 y7_1 = some R → Eqo fwI_X12_turns R.2.1 I0_l7 ∧ Eqo fwM_X12_turns R.2.2.2 M0_l7 := by
  intro fu
  induction fu with
  | zero => intro I0_l7 L0_l7 M0_l7 y7_1 R h; cases (show none = some R from h)
  | succ fu ih =>
    intro I0_l7 L0_l7 M0_l7 y7_1 R h
    rw [fX12_turns_L7.eq_2] at h
    rcases fr_i h with h | h
    · have a1 := fr_fX12_turns_J34 h
      exact ⟨a1.1.tr (by decide) (Eqo.refl fwI_X12_turns I0_l7), a1.2.tr (by decide) (Eqo.refl fwM_X12_turns M0_l7)⟩
    · obtain ⟨-, h⟩ := wb_n h
      obtain ⟨-, h⟩ := wb_n h
      rcases fr_i h with h | h
      · have a2 := fr_fX12_turns_J34 h
        exact ⟨a2.1.tr (by decide) (Eqo.refl fwI_X12_turns I0_l7), a2.2.tr (by decide) (Eqo.refl fwM_X12_turns M0_l7)⟩
      · obtain ⟨v10, -, h⟩ := wb_v h
        have a3 := ih _ _ _ _ _ h
        exact ⟨a3.1.tr (by decide) (Eqo.refl fwI_X12_turns I0_l7), a3.2.tr (by decide) (Eqo.refl fwM_X12_turns M0_l7)⟩
theorem fr_fX12_turns {N : Nat} {I0 : Nat → Int32} {L0 : Int64} {M0 : Nat → Nat → Int32} {R} (h : fX12_turns N I0 L0 M0 = some R) : Eqo fwI_X12_turns R.2.1 I0 ∧ Eqo fwM_X12_turns R.2.2.2 M0 := by
  unfold fX12_turns at h
  obtain ⟨v9, -, h⟩ := wb_v h
  have a1 := fr_fX12_turns_L7 _ _ _ _ _ _ h
  exact ⟨a1.1.tr (by decide) (Eqo.refl fwI_X12_turns I0), a1.2.tr (by decide) (Eqo.refl fwM_X12_turns M0)⟩
abbrev fwI_X12_asks : List Nat := [19]
abbrev fwM_X12_asks : List Nat := [35, 36]
theorem fr_fX12_asks_133_L97 {N : Nat} {x2 : Int32} {x3 : Int32} {r2 : Int32} {g8 : (Nat → Int32) → Int64 → (Nat → Nat → Int32) → Int32 → Option (Int32 × (Nat → Int32) × Int64 × (Nat → Nat → Int32))} (hg8 : ∀ q0 q1 q2 q3 R, g8 q0 q1 q2 q3 = some R → Eqo fwI_X12_asks R.2.1 q0 ∧ Eqo fwM_X12_asks R.2.2.2 q2) : ∀ fu I0_l97 L0_l97 M0_l97 y97_5 y97_6 R, fX12_asks_133_L97 N x2 x3 r2 g8 fu I0_l97 L0_l97 M0_l97 y97_5 y97_6 = some R → Eqo fwI_X12_asks R.2.1 I0_l97 ∧ Eqo fwM_X12_asks R.2.2.2 M0_l97 := by
  intro fu
  induction fu with
  | zero => intro I0_l97 L0_l97 M0_l97 y97_5 y97_6 R h; cases (show none = some R from h)
  | succ fu ih =>
    intro I0_l97 L0_l97 M0_l97 y97_5 y97_6 R h
    rw [fX12_asks_133_L97.eq_2] at h
    rcases fr_i h with h | h
    · have h := Option.some.inj h
      subst h
      exact ⟨(Eqo.refl fwI_X12_asks I0_l97), (Eqo.refl fwM_X12_asks M0_l97)⟩
    · obtain ⟨r3, -, h⟩ := wb_b h
      rcases fr_i h with h | h
      · obtain ⟨r4, e_r4, h⟩ := wb_b h
        have a1 := fr_fX12_turns e_r4
        have fI_r4 := a1.1.tr (W := fwI_X12_asks) (by decide) (Eqo.refl fwI_X12_asks I0_l97)
        have fM_r4 := a1.2.tr (W := fwM_X12_asks) (by decide) (Eqo.refl fwM_X12_asks M0_l97)
        obtain ⟨v5, -, h⟩ := wb_v h
        have a2 := ih _ _ _ _ _ _ h
        exact ⟨a2.1.tr (by decide) fI_r4, a2.2.tr (by decide) fM_r4⟩
      · obtain ⟨v6, -, h⟩ := wb_v h
        obtain ⟨r7, e_r7, h⟩ := wb_b h
        have a3 := fr_fX12_turns e_r7
        have fI_r7 := a3.1.tr (W := fwI_X12_asks) (by decide) (Eqo.refl fwI_X12_asks I0_l97)
        have fM_r7 := a3.2.tr (W := fwM_X12_asks) (by decide) (Eqo.refl fwM_X12_asks M0_l97)
        obtain ⟨v8, -, h⟩ := wb_v h
        have a4 := ih _ _ _ _ _ _ h
        exact ⟨a4.1.tr (by decide) fI_r7, a4.2.tr (by decide) fM_r7⟩
theorem fr_fX12_asks_133_L8 {N : Nat} {x2 : Int32} {x3 : Int32} : ∀ fu I0_l8 L0_l8 M0_l8 y8_4 R, fX12_asks_133_L8 N x2 x3 fu I0_l8 L0_l8 M0_l8 y8_4 = some R → Eqo fwI_X12_asks R.2.1 I0_l8 ∧ Eqo fwM_X12_asks R.2.2.2 M0_l8 := by
  intro fu
  induction fu with
  | zero => intro I0_l8 L0_l8 M0_l8 y8_4 R h; cases (show none = some R from h)
  | succ fu ih =>
    intro I0_l8 L0_l8 M0_l8 y8_4 R h
    rw [fX12_asks_133_L8.eq_2] at h
    rcases fr_i h with h | h
    · obtain ⟨r2, -, h⟩ := wb_b h
      rcases fr_i h with h | h
      · have h := Option.some.inj h
        subst h
        exact ⟨(Eqo.refl fwI_X12_asks I0_l8), (Eqo.refl fwM_X12_asks M0_l8)⟩
      · rcases fr_i h with h | h
        · have c103 : ∀ q0 q1 q2 q3 R, (fX12_asks_133_L8 N x2 x3 fu q0 q1 q2 q3) = some R → Eqo fwI_X12_asks R.2.1 q0 ∧ Eqo fwM_X12_asks R.2.2.2 q2 := by
              intro q0 q1 q2 q3 R h
              have a102 := ih _ _ _ _ _ h
              exact ⟨a102.1.tr (by decide) (Eqo.refl fwI_X12_asks q0), a102.2.tr (by decide) (Eqo.refl fwM_X12_asks q2)⟩
          have a1 := fr_fX12_asks_133_L97 c103 _ _ _ _ _ _ _ h
          exact ⟨a1.1.tr (by decide) (Eqo.refl fwI_X12_asks I0_l8), a1.2.tr (by decide) (Eqo.refl fwM_X12_asks M0_l8)⟩
        · have h := Option.some.inj h
          subst h
          exact ⟨(Eqo.refl fwI_X12_asks I0_l8), (Eqo.refl fwM_X12_asks M0_l8)⟩
    · obtain ⟨-, h⟩ := wb_n h
      rcases fr_i h with h | h
      · obtain ⟨v13, -, h⟩ := wb_v h
        have a104 := ih _ _ _ _ _ h
        exact ⟨a104.1.tr (by decide) (Eqo.refl fwI_X12_asks I0_l8), a104.2.tr (by decide) (Eqo.refl fwM_X12_asks M0_l8)⟩
      · obtain ⟨-, h⟩ := wb_n h
        obtain ⟨M0_9, e_M0_9, h⟩ := wb_v h
        have f_M0_9 := Eqo.eq e_M0_9 (Eqo.m (by decide) (Eqo.refl fwM_X12_asks M0_l8))
        obtain ⟨-, h⟩ := wb_n h
        obtain ⟨M0_10, e_M0_10, h⟩ := wb_v h
        have f_M0_10 := Eqo.eq e_M0_10 (Eqo.m (by decide) f_M0_9)
        obtain ⟨I0_11, e_I0_11, h⟩ := wb_v h
        have f_I0_11 := Eqo.eq e_I0_11 (Eqo.u (by decide) (Eqo.refl fwI_X12_asks I0_l8))
        obtain ⟨v12, -, h⟩ := wb_v h
        have a105 := ih _ _ _ _ _ h
        exact ⟨a105.1.tr (by decide) f_I0_11, a105.2.tr (by decide) f_M0_10⟩
theorem fr_fX12_asks_133 {N : Nat} {I0 : Nat → Int32} {L0 : Int64} {M0 : Nat → Nat → Int32} {x2 : Int32} {x3 : Int32} {R} (h : fX12_asks_133 N I0 L0 M0 x2 x3 = some R) : Eqo fwI_X12_asks R.2.1 I0 ∧ Eqo fwM_X12_asks R.2.2.2 M0 := by
  unfold fX12_asks_133 at h
  obtain ⟨I0_1, e_I0_1, h⟩ := wb_v h
  have f_I0_1 := Eqo.eq e_I0_1 (Eqo.u (by decide) (Eqo.refl fwI_X12_asks I0))
  have a1 := fr_fX12_asks_133_L8 _ _ _ _ _ _ h
  exact ⟨a1.1.tr (by decide) f_I0_1, a1.2.tr (by decide) (Eqo.refl fwM_X12_asks M0)⟩
abbrev fwI_X12_hits : List Nat := [0, 19]
abbrev fwM_X12_hits : List Nat := [35, 36]
theorem fr_fX12_hits_J30 {N : Nat} {x1 : Int32} {x2 : Int32} {I0_j30 : Nat → Int32} {L0_j30 : Int64} {M0_j30 : Nat → Nat → Int32} {z30_0 : Int32} {R} (h : fX12_hits_J30 N x1 x2 I0_j30 L0_j30 M0_j30 z30_0 = some R) : Eqo fwI_X12_hits R.2.1 I0_j30 ∧ Eqo fwM_X12_hits R.2.2.2 M0_j30 := by
  unfold fX12_hits_J30 at h
  obtain ⟨r1, e_r1, h⟩ := wb_b h
  have a1 := fr_fX12_right e_r1
  have fI_r1 := a1.1.tr (W := fwI_X12_hits) (by decide) (Eqo.refl fwI_X12_hits I0_j30)
  have fM_r1 := a1.2.tr (W := fwM_X12_hits) (by decide) (Eqo.refl fwM_X12_hits M0_j30)
  rcases fr_i h with h | h
  · have h := Option.some.inj h
    subst h
    exact ⟨fI_r1, fM_r1⟩
  · obtain ⟨r2, e_r2, h⟩ := wb_b h
    have a2 := fr_fX12_asks_133 e_r2
    have fI_r2 := a2.1.tr (W := fwI_X12_hits) (by decide) fI_r1
    have fM_r2 := a2.2.tr (W := fwM_X12_hits) (by decide) fM_r1
    have h := Option.some.inj h
    subst h
    exact ⟨fI_r2, fM_r2⟩
theorem fr_fX12_hits_J29 {N : Nat} {x1 : Int32} {x2 : Int32} {I0_j29 : Nat → Int32} {L0_j29 : Int64} {M0_j29 : Nat → Nat → Int32} {R} (h : fX12_hits_J29 N x1 x2 I0_j29 L0_j29 M0_j29 = some R) : Eqo fwI_X12_hits R.2.1 I0_j29 ∧ Eqo fwM_X12_hits R.2.2.2 M0_j29 := by
  unfold fX12_hits_J29 at h
  have a1 := fr_fX12_hits_J30 h
  exact ⟨a1.1.tr (by decide) (Eqo.refl fwI_X12_hits I0_j29), a1.2.tr (by decide) (Eqo.refl fwM_X12_hits M0_j29)⟩
theorem fr_fX12_hits_J15 {N : Nat} {x1 : Int32} {x2 : Int32} {I0_j15 : Nat → Int32} {L0_j15 : Int64} {M0_j15 : Nat → Nat → Int32} {R} (h : fX12_hits_J15 N x1 x2 I0_j15 L0_j15 M0_j15 = some R) : Eqo fwI_X12_hits R.2.1 I0_j15 ∧ Eqo fwM_X12_hits R.2.2.2 M0_j15 := by
  unfold fX12_hits_J15 at h
  obtain ⟨r3, -, h⟩ := wb_b h
  rcases fr_i h with h | h
  · have a1 := fr_fX12_hits_J29 h
    exact ⟨a1.1.tr (by decide) (Eqo.refl fwI_X12_hits I0_j15), a1.2.tr (by decide) (Eqo.refl fwM_X12_hits M0_j15)⟩
  · have a2 := fr_fX12_hits_J30 h
    exact ⟨a2.1.tr (by decide) (Eqo.refl fwI_X12_hits I0_j15), a2.2.tr (by decide) (Eqo.refl fwM_X12_hits M0_j15)⟩
theorem fr_fX12_hits {N : Nat} {I0 : Nat → Int32} {L0 : Int64} {M0 : Nat → Nat → Int32} {x1 : Int32} {x2 : Int32} {R} (h : fX12_hits N I0 L0 M0 x1 x2 = some R) : Eqo fwI_X12_hits R.2.1 I0 ∧ Eqo fwM_X12_hits R.2.2.2 M0 := by
  unfold fX12_hits at h
  obtain ⟨I0_4, e_I0_4, h⟩ := wb_v h
  have f_I0_4 := Eqo.eq e_I0_4 (Eqo.u (by decide) (Eqo.refl fwI_X12_hits I0))
  rcases fr_i h with h | h
  · have a1 := fr_fX12_hits_J15 h
    exact ⟨a1.1.tr (by decide) f_I0_4, a1.2.tr (by decide) (Eqo.refl fwM_X12_hits M0)⟩
  · rcases fr_i h with h | h
    · have a2 := fr_fX12_hits_J15 h
      exact ⟨a2.1.tr (by decide) f_I0_4, a2.2.tr (by decide) (Eqo.refl fwM_X12_hits M0)⟩
    · have a3 := fr_fX12_hits_J29 h
      exact ⟨a3.1.tr (by decide) f_I0_4, a3.2.tr (by decide) (Eqo.refl fwM_X12_hits M0)⟩
theorem fr_fX12_asks_135_L97 {N : Nat} {x2 : Int32} {x3 : Int32} {r2 : Int32} {g8 : (Nat → Int32) → Int64 → (Nat → Nat → Int32) → Int32 → Option (Int32 × (Nat → Int32) × Int64 × (Nat → Nat → Int32))} (hg8 : ∀ q0 q1 q2 q3 R, g8 q0 q1 q2 q3 = some R → Eqo fwI_X12_asks R.2.1 q0 ∧ Eqo fwM_X12_asks R.2.2.2 q2) : ∀ fu I0_l97 L0_l97 M0_l97 y97_5 y97_6 R, fX12_asks_135_L97 N x2 x3 r2 g8 fu I0_l97 L0_l97 M0_l97 y97_5 y97_6 = some R → Eqo fwI_X12_asks R.2.1 I0_l97 ∧ Eqo fwM_X12_asks R.2.2.2 M0_l97 := by
  intro fu
  induction fu with
  | zero => intro I0_l97 L0_l97 M0_l97 y97_5 y97_6 R h; cases (show none = some R from h)
  | succ fu ih =>
    intro I0_l97 L0_l97 M0_l97 y97_5 y97_6 R h
    rw [fX12_asks_135_L97.eq_2] at h
    rcases fr_i h with h | h
    · have h := Option.some.inj h
      subst h
      exact ⟨(Eqo.refl fwI_X12_asks I0_l97), (Eqo.refl fwM_X12_asks M0_l97)⟩
    · obtain ⟨r3, -, h⟩ := wb_b h
      rcases fr_i h with h | h
      · obtain ⟨r4, e_r4, h⟩ := wb_b h
        have a1 := fr_fX12_turns e_r4
        have fI_r4 := a1.1.tr (W := fwI_X12_asks) (by decide) (Eqo.refl fwI_X12_asks I0_l97)
        have fM_r4 := a1.2.tr (W := fwM_X12_asks) (by decide) (Eqo.refl fwM_X12_asks M0_l97)
        obtain ⟨v5, -, h⟩ := wb_v h
        have a2 := ih _ _ _ _ _ _ h
        exact ⟨a2.1.tr (by decide) fI_r4, a2.2.tr (by decide) fM_r4⟩
      · obtain ⟨v6, -, h⟩ := wb_v h
        obtain ⟨r7, e_r7, h⟩ := wb_b h
        have a3 := fr_fX12_turns e_r7
        have fI_r7 := a3.1.tr (W := fwI_X12_asks) (by decide) (Eqo.refl fwI_X12_asks I0_l97)
        have fM_r7 := a3.2.tr (W := fwM_X12_asks) (by decide) (Eqo.refl fwM_X12_asks M0_l97)
        obtain ⟨v8, -, h⟩ := wb_v h
        have a4 := ih _ _ _ _ _ _ h
        exact ⟨a4.1.tr (by decide) fI_r7, a4.2.tr (by decide) fM_r7⟩
theorem fr_fX12_asks_135_L8 {N : Nat} {x2 : Int32} {x3 : Int32} : ∀ fu I0_l8 L0_l8 M0_l8 y8_4 R, fX12_asks_135_L8 N x2 x3 fu I0_l8 L0_l8 M0_l8 y8_4 = some R → Eqo fwI_X12_asks R.2.1 I0_l8 ∧ Eqo fwM_X12_asks R.2.2.2 M0_l8 := by
  intro fu
  induction fu with
  | zero => intro I0_l8 L0_l8 M0_l8 y8_4 R h; cases (show none = some R from h)
  | succ fu ih =>
    intro I0_l8 L0_l8 M0_l8 y8_4 R h
    rw [fX12_asks_135_L8.eq_2] at h
    rcases fr_i h with h | h
    · obtain ⟨r2, -, h⟩ := wb_b h
      rcases fr_i h with h | h
      · have h := Option.some.inj h
        subst h
        exact ⟨(Eqo.refl fwI_X12_asks I0_l8), (Eqo.refl fwM_X12_asks M0_l8)⟩
      · rcases fr_i h with h | h
        · have c103 : ∀ q0 q1 q2 q3 R, (fX12_asks_135_L8 N x2 x3 fu q0 q1 q2 q3) = some R → Eqo fwI_X12_asks R.2.1 q0 ∧ Eqo fwM_X12_asks R.2.2.2 q2 := by
              intro q0 q1 q2 q3 R h
              have a102 := ih _ _ _ _ _ h
              exact ⟨a102.1.tr (by decide) (Eqo.refl fwI_X12_asks q0), a102.2.tr (by decide) (Eqo.refl fwM_X12_asks q2)⟩
          have a1 := fr_fX12_asks_135_L97 c103 _ _ _ _ _ _ _ h
          exact ⟨a1.1.tr (by decide) (Eqo.refl fwI_X12_asks I0_l8), a1.2.tr (by decide) (Eqo.refl fwM_X12_asks M0_l8)⟩
        · have h := Option.some.inj h
          subst h
          exact ⟨(Eqo.refl fwI_X12_asks I0_l8), (Eqo.refl fwM_X12_asks M0_l8)⟩
    · obtain ⟨-, h⟩ := wb_n h
      rcases fr_i h with h | h
      · obtain ⟨v13, -, h⟩ := wb_v h
        have a104 := ih _ _ _ _ _ h
        exact ⟨a104.1.tr (by decide) (Eqo.refl fwI_X12_asks I0_l8), a104.2.tr (by decide) (Eqo.refl fwM_X12_asks M0_l8)⟩
      · obtain ⟨-, h⟩ := wb_n h
        obtain ⟨M0_9, e_M0_9, h⟩ := wb_v h
        have f_M0_9 := Eqo.eq e_M0_9 (Eqo.m (by decide) (Eqo.refl fwM_X12_asks M0_l8))
        obtain ⟨-, h⟩ := wb_n h
        obtain ⟨M0_10, e_M0_10, h⟩ := wb_v h
        have f_M0_10 := Eqo.eq e_M0_10 (Eqo.m (by decide) f_M0_9)
        obtain ⟨I0_11, e_I0_11, h⟩ := wb_v h
        have f_I0_11 := Eqo.eq e_I0_11 (Eqo.u (by decide) (Eqo.refl fwI_X12_asks I0_l8))
        obtain ⟨v12, -, h⟩ := wb_v h
        have a105 := ih _ _ _ _ _ h
        exact ⟨a105.1.tr (by decide) f_I0_11, a105.2.tr (by decide) f_M0_10⟩
theorem fr_fX12_asks_135 {N : Nat} {I0 : Nat → Int32} {L0 : Int64} {M0 : Nat → Nat → Int32} {x2 : Int32} {x3 : Int32} {R} (h : fX12_asks_135 N I0 L0 M0 x2 x3 = some R) : Eqo fwI_X12_asks R.2.1 I0 ∧ Eqo fwM_X12_asks R.2.2.2 M0 := by
  unfold fX12_asks_135 at h
  obtain ⟨I0_1, e_I0_1, h⟩ := wb_v h
  have f_I0_1 := Eqo.eq e_I0_1 (Eqo.u (by decide) (Eqo.refl fwI_X12_asks I0))
  have a1 := fr_fX12_asks_135_L8 _ _ _ _ _ _ h
  exact ⟨a1.1.tr (by decide) f_I0_1, a1.2.tr (by decide) (Eqo.refl fwM_X12_asks M0)⟩
abbrev fwI_X12_fates : List Nat := [0, 19]
abbrev fwM_X12_fates : List Nat := [35, 36]
theorem fr_fX12_fates_J20 {N : Nat} {x1 : Int32} {I0_j20 : Nat → Int32} {L0_j20 : Int64} {M0_j20 : Nat → Nat → Int32} {z20_0 : Int32} {R} (h : fX12_fates_J20 N x1 I0_j20 L0_j20 M0_j20 z20_0 = some R) : Eqo fwI_X12_fates R.2.1 I0_j20 ∧ Eqo fwM_X12_fates R.2.2.2 M0_j20 := by
  unfold fX12_fates_J20 at h
  obtain ⟨r1, e_r1, h⟩ := wb_b h
  have a1 := fr_fX12_right e_r1
  have fI_r1 := a1.1.tr (W := fwI_X12_fates) (by decide) (Eqo.refl fwI_X12_fates I0_j20)
  have fM_r1 := a1.2.tr (W := fwM_X12_fates) (by decide) (Eqo.refl fwM_X12_fates M0_j20)
  rcases fr_i h with h | h
  · have h := Option.some.inj h
    subst h
    exact ⟨fI_r1, fM_r1⟩
  · obtain ⟨r2, e_r2, h⟩ := wb_b h
    have a2 := fr_fX12_asks_135 e_r2
    have fI_r2 := a2.1.tr (W := fwI_X12_fates) (by decide) fI_r1
    have fM_r2 := a2.2.tr (W := fwM_X12_fates) (by decide) fM_r1
    have h := Option.some.inj h
    subst h
    exact ⟨fI_r2, fM_r2⟩
theorem fr_fX12_fates_J15 {N : Nat} {x1 : Int32} {I0_j15 : Nat → Int32} {L0_j15 : Int64} {M0_j15 : Nat → Nat → Int32} {R} (h : fX12_fates_J15 N x1 I0_j15 L0_j15 M0_j15 = some R) : Eqo fwI_X12_fates R.2.1 I0_j15 ∧ Eqo fwM_X12_fates R.2.2.2 M0_j15 := by
  unfold fX12_fates_J15 at h
  have a1 := fr_fX12_fates_J20 h
  exact ⟨a1.1.tr (by decide) (Eqo.refl fwI_X12_fates I0_j15), a1.2.tr (by decide) (Eqo.refl fwM_X12_fates M0_j15)⟩
theorem fr_fX12_fates {N : Nat} {I0 : Nat → Int32} {L0 : Int64} {M0 : Nat → Nat → Int32} {x1 : Int32} {R} (h : fX12_fates N I0 L0 M0 x1 = some R) : Eqo fwI_X12_fates R.2.1 I0 ∧ Eqo fwM_X12_fates R.2.2.2 M0 := by
  unfold fX12_fates at h
  obtain ⟨I0_3, e_I0_3, h⟩ := wb_v h
  have f_I0_3 := Eqo.eq e_I0_3 (Eqo.u (by decide) (Eqo.refl fwI_X12_fates I0))
  rcases fr_i h with h | h
  · have a1 := fr_fX12_fates_J15 h
    exact ⟨a1.1.tr (by decide) f_I0_3, a1.2.tr (by decide) (Eqo.refl fwM_X12_fates M0)⟩
  · rcases fr_i h with h | h
    · have a2 := fr_fX12_fates_J15 h
      exact ⟨a2.1.tr (by decide) f_I0_3, a2.2.tr (by decide) (Eqo.refl fwM_X12_fates M0)⟩
    · have a3 := fr_fX12_fates_J20 h
      exact ⟨a3.1.tr (by decide) f_I0_3, a3.2.tr (by decide) (Eqo.refl fwM_X12_fates M0)⟩
abbrev fwI_L_house : List Nat := [0, 1, 2, 3, 4, 5, 6, 7, 8, 9, 10, 11, 12]
abbrev fwM_L_house : List Nat := [0, 1, 2, 3, 4, 5, 6, 7, 8, 9, 10, 11, 12]
theorem fr_fL_house {N : Nat} {I0 : Nat → Int32} {M0 : Nat → Nat → Int32} {x1 : Int32} {o2 : Nat → Int64} {R} (h : fL_house N I0 M0 x1 o2 = some R) : Eqo fwI_L_house R.2.1 I0 ∧ Eqo fwM_L_house R.2.2.1 M0 := by
  unfold fL_house at h
  rcases fr_hp h with ⟨k, -, h⟩ | ⟨r, e_r, h⟩
  · rcases fr_i h with h | h
    · have h := Option.some.inj h
      subst h
      exact ⟨(Eqo.refl fwI_L_house I0), (Eqo.refl fwM_L_house M0)⟩
    · cases h
  · have a1 := fr_fX11_house e_r
    have fI_r := a1.1.tr (W := fwI_L_house) (by decide) (Eqo.refl fwI_L_house I0)
    have fM_r := a1.2.tr (W := fwM_L_house) (by decide) (Eqo.refl fwM_L_house M0)
    obtain ⟨o2_1, -, h⟩ := wb_v h
    have h := Option.some.inj h
    subst h
    exact ⟨fI_r, fM_r⟩
abbrev fwI_L_wheel : List Nat := [0, 1, 2, 3, 4, 5, 6, 7, 8]
abbrev fwM_L_wheel : List Nat := [0, 13, 14]
theorem fr_fL_wheel {N : Nat} {I0 : Nat → Int32} {M0 : Nat → Nat → Int32} {x1 : Int32} {x2 : Int32} {x3 : Int32} {o4 : Nat → Int64} {R} (h : fL_wheel N I0 M0 x1 x2 x3 o4 = some R) : Eqo fwI_L_wheel R.2.1 I0 ∧ Eqo fwM_L_wheel R.2.2.1 M0 := by
  unfold fL_wheel at h
  rcases fr_hp h with ⟨k, -, h⟩ | ⟨r, e_r, h⟩
  · rcases fr_i h with h | h
    · have h := Option.some.inj h
      subst h
      exact ⟨(Eqo.refl fwI_L_wheel I0), (Eqo.refl fwM_L_wheel M0)⟩
    · rcases fr_i h with h | h
      · have h := Option.some.inj h
        subst h
        exact ⟨(Eqo.refl fwI_L_wheel I0), (Eqo.refl fwM_L_wheel M0)⟩
      · cases h
  · have a1 := fr_fX11_wheel e_r
    have fI_r := a1.1.tr (W := fwI_L_wheel) (by decide) (Eqo.refl fwI_L_wheel I0)
    have fM_r := a1.2.tr (W := fwM_L_wheel) (by decide) (Eqo.refl fwM_L_wheel M0)
    obtain ⟨o4_1, -, h⟩ := wb_v h
    have h := Option.some.inj h
    subst h
    exact ⟨fI_r, fM_r⟩
abbrev fwI_L_count : List Nat := []
abbrev fwM_L_count : List Nat := [28, 29, 30, 31, 32, 33]
theorem fr_fL_count {N : Nat} {I0 : Nat → Int32} {M0 : Nat → Nat → Int32} {x1 : Int32} {o2 : Nat → Int64} {R} (h : fL_count N I0 M0 x1 o2 = some R) : Eqo fwI_L_count R.2.1 I0 ∧ Eqo fwM_L_count R.2.2.1 M0 := by
  unfold fL_count at h
  rcases fr_hp h with ⟨k, -, h⟩ | ⟨r, e_r, h⟩
  · rcases fr_i h with h | h
    · have h := Option.some.inj h
      subst h
      exact ⟨(Eqo.refl fwI_L_count I0), (Eqo.refl fwM_L_count M0)⟩
    · cases h
  · have a1 := fr_fX11_count e_r
    have fI_r := a1.1.tr (W := fwI_L_count) (by decide) (Eqo.refl fwI_L_count I0)
    have fM_r := a1.2.tr (W := fwM_L_count) (by decide) (Eqo.refl fwM_L_count M0)
    obtain ⟨o2_1, -, h⟩ := wb_v h
    have h := Option.some.inj h
    subst h
    exact ⟨fI_r, fM_r⟩
abbrev fwI_L_place : List Nat := []
abbrev fwM_L_place : List Nat := []
theorem fr_fL_place {N : Nat} {I0 : Nat → Int32} {M0 : Nat → Nat → Int32} {x1 : Int32} {x2 : Int32} {x3 : Int32} {o4 : Nat → Int64} {R} (h : fL_place N I0 M0 x1 x2 x3 o4 = some R) : Eqo fwI_L_place R.2.1 I0 ∧ Eqo fwM_L_place R.2.2.1 M0 := by
  unfold fL_place at h
  rcases fr_hp h with ⟨k, -, h⟩ | ⟨r, e_r, h⟩
  · rcases fr_i h with h | h
    · have h := Option.some.inj h
      subst h
      exact ⟨(Eqo.refl fwI_L_place I0), (Eqo.refl fwM_L_place M0)⟩
    · cases h
  · obtain ⟨o4_1, -, h⟩ := wb_v h
    have h := Option.some.inj h
    subst h
    exact ⟨(Eqo.refl fwI_L_place I0), (Eqo.refl fwM_L_place M0)⟩
abbrev fwI_L_entry : List Nat := []
abbrev fwM_L_entry : List Nat := []
theorem fr_fL_entry {N : Nat} {I0 : Nat → Int32} {M0 : Nat → Nat → Int32} {x1 : Int32} {x2 : Int32} {x3 : Int32} {o4 : Nat → Int64} {R} (h : fL_entry N I0 M0 x1 x2 x3 o4 = some R) : Eqo fwI_L_entry R.2.1 I0 ∧ Eqo fwM_L_entry R.2.2.1 M0 := by
  unfold fL_entry at h
  rcases fr_hp h with ⟨k, -, h⟩ | ⟨r, e_r, h⟩
  · rcases fr_i h with h | h
    · have h := Option.some.inj h
      subst h
      exact ⟨(Eqo.refl fwI_L_entry I0), (Eqo.refl fwM_L_entry M0)⟩
    · cases h
  · obtain ⟨o4_1, -, h⟩ := wb_v h
    have h := Option.some.inj h
    subst h
    exact ⟨(Eqo.refl fwI_L_entry I0), (Eqo.refl fwM_L_entry M0)⟩
abbrev fwI_L_cost : List Nat := []
abbrev fwM_L_cost : List Nat := []
theorem fr_fL_cost {N : Nat} {I0 : Nat → Int32} {M0 : Nat → Nat → Int32} {x1 : Int32} {x2 : Int32} {x3 : Int32} {x4 : Int32} {o5 : Nat → Int64} {R} (h : fL_cost N I0 M0 x1 x2 x3 x4 o5 = some R) : Eqo fwI_L_cost R.2.1 I0 ∧ Eqo fwM_L_cost R.2.2.1 M0 := by
  unfold fL_cost at h
  rcases fr_hp h with ⟨k, -, h⟩ | ⟨r, e_r, h⟩
  · rcases fr_i h with h | h
    · have h := Option.some.inj h
      subst h
      exact ⟨(Eqo.refl fwI_L_cost I0), (Eqo.refl fwM_L_cost M0)⟩
    · cases h
  · obtain ⟨o5_1, -, h⟩ := wb_v h
    have h := Option.some.inj h
    subst h
    exact ⟨(Eqo.refl fwI_L_cost I0), (Eqo.refl fwM_L_cost M0)⟩
abbrev fwI_L_best : List Nat := [13, 14, 15, 16, 17, 18, 19]
abbrev fwM_L_best : List Nat := [16]
theorem fr_fL_best {N : Nat} {I0 : Nat → Int32} {M0 : Nat → Nat → Int32} {x1 : Int32} {x2 : Int32} {x3 : Int32} {x4 : Int32} {x5 : Int32} {o6 : Nat → Int64} {R} (h : fL_best N I0 M0 x1 x2 x3 x4 x5 o6 = some R) : Eqo fwI_L_best R.2.1 I0 ∧ Eqo fwM_L_best R.2.2.1 M0 := by
  unfold fL_best at h
  rcases fr_hp h with ⟨k, -, h⟩ | ⟨r, e_r, h⟩
  · rcases fr_i h with h | h
    · have h := Option.some.inj h
      subst h
      exact ⟨(Eqo.refl fwI_L_best I0), (Eqo.refl fwM_L_best M0)⟩
    · rcases fr_i h with h | h
      · have h := Option.some.inj h
        subst h
        exact ⟨(Eqo.refl fwI_L_best I0), (Eqo.refl fwM_L_best M0)⟩
      · cases h
  · have a1 := fr_fX11_best e_r
    have fI_r := a1.1.tr (W := fwI_L_best) (by decide) (Eqo.refl fwI_L_best I0)
    have fM_r := a1.2.tr (W := fwM_L_best) (by decide) (Eqo.refl fwM_L_best M0)
    obtain ⟨o6_1, -, h⟩ := wb_v h
    have h := Option.some.inj h
    subst h
    exact ⟨fI_r, fM_r⟩
abbrev fwI_L_day : List Nat := []
abbrev fwM_L_day : List Nat := []
theorem fr_fL_day {N : Nat} {I0 : Nat → Int32} {M0 : Nat → Nat → Int32} {x1 : Int32} {o2 : Nat → Int64} {R} (h : fL_day N I0 M0 x1 o2 = some R) : Eqo fwI_L_day R.2.1 I0 ∧ Eqo fwM_L_day R.2.2.1 M0 := by
  unfold fL_day at h
  rcases fr_hp h with ⟨k, -, h⟩ | ⟨r, e_r, h⟩
  · rcases fr_i h with h | h
    · have h := Option.some.inj h
      subst h
      exact ⟨(Eqo.refl fwI_L_day I0), (Eqo.refl fwM_L_day M0)⟩
    · cases h
  · obtain ⟨o2_1, -, h⟩ := wb_v h
    have h := Option.some.inj h
    subst h
    exact ⟨(Eqo.refl fwI_L_day I0), (Eqo.refl fwM_L_day M0)⟩
abbrev fwI_L_whose : List Nat := [20, 21, 22, 23, 24, 25, 26]
abbrev fwM_L_whose : List Nat := [17]
theorem fr_fL_whose {N : Nat} {I0 : Nat → Int32} {M0 : Nat → Nat → Int32} {x1 : Int32} {x2 : Int32} {x3 : Int32} {x4 : Int32} {x5 : Int32} {o6 : Nat → Int64} {R} (h : fL_whose N I0 M0 x1 x2 x3 x4 x5 o6 = some R) : Eqo fwI_L_whose R.2.1 I0 ∧ Eqo fwM_L_whose R.2.2.1 M0 := by
  unfold fL_whose at h
  rcases fr_hp h with ⟨k, -, h⟩ | ⟨r, e_r, h⟩
  · rcases fr_i h with h | h
    · have h := Option.some.inj h
      subst h
      exact ⟨(Eqo.refl fwI_L_whose I0), (Eqo.refl fwM_L_whose M0)⟩
    · rcases fr_i h with h | h
      · have h := Option.some.inj h
        subst h
        exact ⟨(Eqo.refl fwI_L_whose I0), (Eqo.refl fwM_L_whose M0)⟩
      · cases h
  · have a1 := fr_fX11_whose e_r
    have fI_r := a1.1.tr (W := fwI_L_whose) (by decide) (Eqo.refl fwI_L_whose I0)
    have fM_r := a1.2.tr (W := fwM_L_whose) (by decide) (Eqo.refl fwM_L_whose M0)
    obtain ⟨o6_1, -, h⟩ := wb_v h
    have h := Option.some.inj h
    subst h
    exact ⟨fI_r, fM_r⟩
abbrev fwI_L_mixed : List Nat := []
abbrev fwM_L_mixed : List Nat := []
theorem fr_fL_mixed {N : Nat} {I0 : Nat → Int32} {M0 : Nat → Nat → Int32} {x1 : Int32} {x2 : Int32} {x3 : Int32} {x4 : Int32} {o5 : Nat → Int64} {R} (h : fL_mixed N I0 M0 x1 x2 x3 x4 o5 = some R) : Eqo fwI_L_mixed R.2.1 I0 ∧ Eqo fwM_L_mixed R.2.2.1 M0 := by
  unfold fL_mixed at h
  rcases fr_hp h with ⟨k, -, h⟩ | ⟨r, e_r, h⟩
  · rcases fr_i h with h | h
    · have h := Option.some.inj h
      subst h
      exact ⟨(Eqo.refl fwI_L_mixed I0), (Eqo.refl fwM_L_mixed M0)⟩
    · rcases fr_i h with h | h
      · have h := Option.some.inj h
        subst h
        exact ⟨(Eqo.refl fwI_L_mixed I0), (Eqo.refl fwM_L_mixed M0)⟩
      · cases h
  · obtain ⟨o5_1, -, h⟩ := wb_v h
    have h := Option.some.inj h
    subst h
    exact ⟨(Eqo.refl fwI_L_mixed I0), (Eqo.refl fwM_L_mixed M0)⟩
abbrev fwI_L_climb : List Nat := []
abbrev fwM_L_climb : List Nat := []
theorem fr_fL_climb {N : Nat} {I0 : Nat → Int32} {M0 : Nat → Nat → Int32} {x1 : Int32} {x2 : Int32} {o3 : Nat → Int64} {R} (h : fL_climb N I0 M0 x1 x2 o3 = some R) : Eqo fwI_L_climb R.2.1 I0 ∧ Eqo fwM_L_climb R.2.2.1 M0 := by
  unfold fL_climb at h
  rcases fr_hp h with ⟨k, -, h⟩ | ⟨r, e_r, h⟩
  · rcases fr_i h with h | h
    · have h := Option.some.inj h
      subst h
      exact ⟨(Eqo.refl fwI_L_climb I0), (Eqo.refl fwM_L_climb M0)⟩
    · cases h
  · obtain ⟨o3_1, -, h⟩ := wb_v h
    have h := Option.some.inj h
    subst h
    exact ⟨(Eqo.refl fwI_L_climb I0), (Eqo.refl fwM_L_climb M0)⟩
abbrev fwI_L_rise : List Nat := []
abbrev fwM_L_rise : List Nat := []
theorem fr_fL_rise {N : Nat} {I0 : Nat → Int32} {M0 : Nat → Nat → Int32} {x1 : Int32} {x2 : Int32} {x3 : Int32} {o4 : Nat → Int64} {R} (h : fL_rise N I0 M0 x1 x2 x3 o4 = some R) : Eqo fwI_L_rise R.2.1 I0 ∧ Eqo fwM_L_rise R.2.2.1 M0 := by
  unfold fL_rise at h
  rcases fr_hp h with ⟨k, -, h⟩ | ⟨r, e_r, h⟩
  · rcases fr_i h with h | h
    · have h := Option.some.inj h
      subst h
      exact ⟨(Eqo.refl fwI_L_rise I0), (Eqo.refl fwM_L_rise M0)⟩
    · cases h
  · obtain ⟨o4_1, -, h⟩ := wb_v h
    have h := Option.some.inj h
    subst h
    exact ⟨(Eqo.refl fwI_L_rise I0), (Eqo.refl fwM_L_rise M0)⟩
abbrev fwI_L_middle : List Nat := []
abbrev fwM_L_middle : List Nat := []
theorem fr_fL_middle {N : Nat} {I0 : Nat → Int32} {M0 : Nat → Nat → Int32} {x1 : Int32} {x2 : Int32} {o3 : Nat → Int64} {R} (h : fL_middle N I0 M0 x1 x2 o3 = some R) : Eqo fwI_L_middle R.2.1 I0 ∧ Eqo fwM_L_middle R.2.2.1 M0 := by
  unfold fL_middle at h
  rcases fr_hp h with ⟨k, -, h⟩ | ⟨r, e_r, h⟩
  · rcases fr_i h with h | h
    · have h := Option.some.inj h
      subst h
      exact ⟨(Eqo.refl fwI_L_middle I0), (Eqo.refl fwM_L_middle M0)⟩
    · cases h
  · obtain ⟨o3_1, -, h⟩ := wb_v h
    have h := Option.some.inj h
    subst h
    exact ⟨(Eqo.refl fwI_L_middle I0), (Eqo.refl fwM_L_middle M0)⟩
abbrev fwI_L_hour : List Nat := []
abbrev fwM_L_hour : List Nat := []
theorem fr_fL_hour {N : Nat} {I0 : Nat → Int32} {M0 : Nat → Nat → Int32} {x1 : Int32} {x2 : Int32} {x3 : Int32} {o4 : Nat → Int64} {R} (h : fL_hour N I0 M0 x1 x2 x3 o4 = some R) : Eqo fwI_L_hour R.2.1 I0 ∧ Eqo fwM_L_hour R.2.2.1 M0 := by
  unfold fL_hour at h
  rcases fr_hp h with ⟨k, -, h⟩ | ⟨r, e_r, h⟩
  · rcases fr_i h with h | h
    · have h := Option.some.inj h
      subst h
      exact ⟨(Eqo.refl fwI_L_hour I0), (Eqo.refl fwM_L_hour M0)⟩
    · cases h
  · obtain ⟨o4_1, -, h⟩ := wb_v h
    have h := Option.some.inj h
    subst h
    exact ⟨(Eqo.refl fwI_L_hour I0), (Eqo.refl fwM_L_hour M0)⟩
abbrev fwI_L_houseOf : List Nat := []
abbrev fwM_L_houseOf : List Nat := []
theorem fr_fL_houseOf {N : Nat} {I0 : Nat → Int32} {M0 : Nat → Nat → Int32} {x1 : Int32} {x2 : Int32} {x3 : Int32} {x4 : Int32} {o5 : Nat → Int64} {R} (h : fL_houseOf N I0 M0 x1 x2 x3 x4 o5 = some R) : Eqo fwI_L_houseOf R.2.1 I0 ∧ Eqo fwM_L_houseOf R.2.2.1 M0 := by
  unfold fL_houseOf at h
  rcases fr_hp h with ⟨k, -, h⟩ | ⟨r, e_r, h⟩
  · rcases fr_i h with h | h
    · have h := Option.some.inj h
      subst h
      exact ⟨(Eqo.refl fwI_L_houseOf I0), (Eqo.refl fwM_L_houseOf M0)⟩
    · cases h
  · obtain ⟨o5_1, -, h⟩ := wb_v h
    have h := Option.some.inj h
    subst h
    exact ⟨(Eqo.refl fwI_L_houseOf I0), (Eqo.refl fwM_L_houseOf M0)⟩
abbrev fwI_L_agree : List Nat := []
abbrev fwM_L_agree : List Nat := []
theorem fr_fL_agree {N : Nat} {I0 : Nat → Int32} {M0 : Nat → Nat → Int32} {x1 : Int32} {x2 : Int32} {x3 : Int32} {x4 : Int32} {o5 : Nat → Int64} {R} (h : fL_agree N I0 M0 x1 x2 x3 x4 o5 = some R) : Eqo fwI_L_agree R.2.1 I0 ∧ Eqo fwM_L_agree R.2.2.1 M0 := by
  unfold fL_agree at h
  rcases fr_hp h with ⟨k, -, h⟩ | ⟨r, e_r, h⟩
  · rcases fr_i h with h | h
    · have h := Option.some.inj h
      subst h
      exact ⟨(Eqo.refl fwI_L_agree I0), (Eqo.refl fwM_L_agree M0)⟩
    · cases h
  · obtain ⟨o5_1, -, h⟩ := wb_v h
    have h := Option.some.inj h
    subst h
    exact ⟨(Eqo.refl fwI_L_agree I0), (Eqo.refl fwM_L_agree M0)⟩
abbrev fwI_L_lot : List Nat := []
abbrev fwM_L_lot : List Nat := []
theorem fr_fL_lot {N : Nat} {I0 : Nat → Int32} {M0 : Nat → Nat → Int32} {x1 : Int32} {x2 : Int32} {x3 : Int32} {o4 : Nat → Int64} {R} (h : fL_lot N I0 M0 x1 x2 x3 o4 = some R) : Eqo fwI_L_lot R.2.1 I0 ∧ Eqo fwM_L_lot R.2.2.1 M0 := by
  unfold fL_lot at h
  rcases fr_hp h with ⟨k, -, h⟩ | ⟨r, e_r, h⟩
  · rcases fr_i h with h | h
    · have h := Option.some.inj h
      subst h
      exact ⟨(Eqo.refl fwI_L_lot I0), (Eqo.refl fwM_L_lot M0)⟩
    · cases h
  · obtain ⟨o4_1, -, h⟩ := wb_v h
    have h := Option.some.inj h
    subst h
    exact ⟨(Eqo.refl fwI_L_lot I0), (Eqo.refl fwM_L_lot M0)⟩
abbrev fwI_L_price : List Nat := []
abbrev fwM_L_price : List Nat := []
theorem fr_fL_price {N : Nat} {I0 : Nat → Int32} {M0 : Nat → Nat → Int32} {x1 : Int32} {x2 : Int32} {o3 : Nat → Int64} {R} (h : fL_price N I0 M0 x1 x2 o3 = some R) : Eqo fwI_L_price R.2.1 I0 ∧ Eqo fwM_L_price R.2.2.1 M0 := by
  unfold fL_price at h
  rcases fr_hp h with ⟨k, -, h⟩ | ⟨r, e_r, h⟩
  · rcases fr_i h with h | h
    · have h := Option.some.inj h
      subst h
      exact ⟨(Eqo.refl fwI_L_price I0), (Eqo.refl fwM_L_price M0)⟩
    · cases h
  · obtain ⟨o3_1, -, h⟩ := wb_v h
    have h := Option.some.inj h
    subst h
    exact ⟨(Eqo.refl fwI_L_price I0), (Eqo.refl fwM_L_price M0)⟩
abbrev fwI_L_seek : List Nat := [27, 28, 29, 30, 31, 32, 33]
abbrev fwM_L_seek : List Nat := [18]
theorem fr_fL_seek {N : Nat} {I0 : Nat → Int32} {M0 : Nat → Nat → Int32} {x1 : Int32} {x2 : Int32} {x3 : Int32} {x4 : Int32} {R} (h : fL_seek N I0 M0 x1 x2 x3 x4 = some R) : Eqo fwI_L_seek R.2.1 I0 ∧ Eqo fwM_L_seek R.2.2 M0 := by
  unfold fL_seek at h
  rcases fr_hp h with ⟨k, -, h⟩ | ⟨r, e_r, h⟩
  · rcases fr_i h with h | h
    · have h := Option.some.inj h
      subst h
      exact ⟨(Eqo.refl fwI_L_seek I0), (Eqo.refl fwM_L_seek M0)⟩
    · cases h
  · have a1 := fr_fX11_seek e_r
    have fI_r := a1.1.tr (W := fwI_L_seek) (by decide) (Eqo.refl fwI_L_seek I0)
    have fM_r := a1.2.tr (W := fwM_L_seek) (by decide) (Eqo.refl fwM_L_seek M0)
    have h := Option.some.inj h
    subst h
    exact ⟨fI_r, fM_r⟩
abbrev fwI_L_on : List Nat := [27, 28, 29, 30, 31, 32, 33]
abbrev fwM_L_on : List Nat := [18]
theorem fr_fL_on {N : Nat} {I0 : Nat → Int32} {M0 : Nat → Nat → Int32} {x1 : Int32} {o2 : Nat → Int64} {R} (h : fL_on N I0 M0 x1 o2 = some R) : Eqo fwI_L_on R.2.1 I0 ∧ Eqo fwM_L_on R.2.2.1 M0 := by
  unfold fL_on at h
  rcases fr_hp h with ⟨k, -, h⟩ | ⟨r, e_r, h⟩
  · rcases fr_i h with h | h
    · have h := Option.some.inj h
      subst h
      exact ⟨(Eqo.refl fwI_L_on I0), (Eqo.refl fwM_L_on M0)⟩
    · rcases fr_i h with h | h
      · have h := Option.some.inj h
        subst h
        exact ⟨(Eqo.refl fwI_L_on I0), (Eqo.refl fwM_L_on M0)⟩
      · cases h
  · have a1 := fr_fX11_on e_r
    have fI_r := a1.1.tr (W := fwI_L_on) (by decide) (Eqo.refl fwI_L_on I0)
    have fM_r := a1.2.tr (W := fwM_L_on) (by decide) (Eqo.refl fwM_L_on M0)
    obtain ⟨o2_1, -, h⟩ := wb_v h
    have h := Option.some.inj h
    subst h
    exact ⟨fI_r, fM_r⟩
abbrev fwI_L_held : List Nat := []
abbrev fwM_L_held : List Nat := []
theorem fr_fL_held {N : Nat} {I0 : Nat → Int32} {M0 : Nat → Nat → Int32} {x1 : Int32} {o2 : Nat → Int64} {R} (h : fL_held N I0 M0 x1 o2 = some R) : Eqo fwI_L_held R.2.1 I0 ∧ Eqo fwM_L_held R.2.2.1 M0 := by
  unfold fL_held at h
  rcases fr_hp h with ⟨k, -, h⟩ | ⟨r, e_r, h⟩
  · rcases fr_i h with h | h
    · have h := Option.some.inj h
      subst h
      exact ⟨(Eqo.refl fwI_L_held I0), (Eqo.refl fwM_L_held M0)⟩
    · cases h
  · obtain ⟨o2_1, -, h⟩ := wb_v h
    have h := Option.some.inj h
    subst h
    exact ⟨(Eqo.refl fwI_L_held I0), (Eqo.refl fwM_L_held M0)⟩
abbrev fwI_L_misread : List Nat := []
abbrev fwM_L_misread : List Nat := []
theorem fr_fL_misread {N : Nat} {I0 : Nat → Int32} {M0 : Nat → Nat → Int32} {x1 : Int32} {x2 : Int32} {x3 : Int32} {x4 : Int32} {x5 : Int32} {o6 : Nat → Int64} {R} (h : fL_misread N I0 M0 x1 x2 x3 x4 x5 o6 = some R) : Eqo fwI_L_misread R.2.1 I0 ∧ Eqo fwM_L_misread R.2.2.1 M0 := by
  unfold fL_misread at h
  rcases fr_hp h with ⟨k, -, h⟩ | ⟨r, e_r, h⟩
  · rcases fr_i h with h | h
    · have h := Option.some.inj h
      subst h
      exact ⟨(Eqo.refl fwI_L_misread I0), (Eqo.refl fwM_L_misread M0)⟩
    · cases h
  · obtain ⟨o6_1, -, h⟩ := wb_v h
    have h := Option.some.inj h
    subst h
    exact ⟨(Eqo.refl fwI_L_misread I0), (Eqo.refl fwM_L_misread M0)⟩
abbrev fwI_L_errors : List Nat := []
abbrev fwM_L_errors : List Nat := [15]
theorem fr_fL_errors {N : Nat} {I0 : Nat → Int32} {M0 : Nat → Nat → Int32} {x1 : Int32} {x2 : Int32} {x3 : Int32} {x4 : Int32} {o5 : Nat → Int64} {R} (h : fL_errors N I0 M0 x1 x2 x3 x4 o5 = some R) : Eqo fwI_L_errors R.2.1 I0 ∧ Eqo fwM_L_errors R.2.2.1 M0 := by
  unfold fL_errors at h
  rcases fr_hp h with ⟨k, -, h⟩ | ⟨r, e_r, h⟩
  · rcases fr_i h with h | h
    · have h := Option.some.inj h
      subst h
      exact ⟨(Eqo.refl fwI_L_errors I0), (Eqo.refl fwM_L_errors M0)⟩
    · cases h
  · have a1 := fr_fX11_errors e_r
    have fI_r := a1.1.tr (W := fwI_L_errors) (by decide) (Eqo.refl fwI_L_errors I0)
    have fM_r := a1.2.tr (W := fwM_L_errors) (by decide) (Eqo.refl fwM_L_errors M0)
    obtain ⟨o5_1, -, h⟩ := wb_v h
    have h := Option.some.inj h
    subst h
    exact ⟨fI_r, fM_r⟩
abbrev fwI_L_possible : List Nat := []
abbrev fwM_L_possible : List Nat := []
theorem fr_fL_possible {N : Nat} {I0 : Nat → Int32} {M0 : Nat → Nat → Int32} {x1 : Int32} {x2 : Int32} {x3 : Int32} {o4 : Nat → Int64} {R} (h : fL_possible N I0 M0 x1 x2 x3 o4 = some R) : Eqo fwI_L_possible R.2.1 I0 ∧ Eqo fwM_L_possible R.2.2.1 M0 := by
  unfold fL_possible at h
  rcases fr_hp h with ⟨k, -, h⟩ | ⟨r, e_r, h⟩
  · rcases fr_i h with h | h
    · have h := Option.some.inj h
      subst h
      exact ⟨(Eqo.refl fwI_L_possible I0), (Eqo.refl fwM_L_possible M0)⟩
    · cases h
  · obtain ⟨o4_1, -, h⟩ := wb_v h
    have h := Option.some.inj h
    subst h
    exact ⟨(Eqo.refl fwI_L_possible I0), (Eqo.refl fwM_L_possible M0)⟩
abbrev fwI_L_slips : List Nat := []
abbrev fwM_L_slips : List Nat := []
theorem fr_fL_slips {N : Nat} {I0 : Nat → Int32} {M0 : Nat → Nat → Int32} {x1 : Int32} {x2 : Int32} {o3 : Nat → Int64} {R} (h : fL_slips N I0 M0 x1 x2 o3 = some R) : Eqo fwI_L_slips R.2.1 I0 ∧ Eqo fwM_L_slips R.2.2.1 M0 := by
  unfold fL_slips at h
  rcases fr_hp h with ⟨k, -, h⟩ | ⟨r, e_r, h⟩
  · rcases fr_i h with h | h
    · have h := Option.some.inj h
      subst h
      exact ⟨(Eqo.refl fwI_L_slips I0), (Eqo.refl fwM_L_slips M0)⟩
    · cases h
  · obtain ⟨o3_1, -, h⟩ := wb_v h
    have h := Option.some.inj h
    subst h
    exact ⟨(Eqo.refl fwI_L_slips I0), (Eqo.refl fwM_L_slips M0)⟩
abbrev fwI_L_handed : List Nat := []
abbrev fwM_L_handed : List Nat := []
theorem fr_fL_handed {N : Nat} {I0 : Nat → Int32} {M0 : Nat → Nat → Int32} {x1 : Int32} {x2 : Int32} {x3 : Int32} {o4 : Nat → Int64} {R} (h : fL_handed N I0 M0 x1 x2 x3 o4 = some R) : Eqo fwI_L_handed R.2.1 I0 ∧ Eqo fwM_L_handed R.2.2.1 M0 := by
  unfold fL_handed at h
  rcases fr_hp h with ⟨k, -, h⟩ | ⟨r, e_r, h⟩
  · rcases fr_i h with h | h
    · have h := Option.some.inj h
      subst h
      exact ⟨(Eqo.refl fwI_L_handed I0), (Eqo.refl fwM_L_handed M0)⟩
    · cases h
  · obtain ⟨o4_1, -, h⟩ := wb_v h
    have h := Option.some.inj h
    subst h
    exact ⟨(Eqo.refl fwI_L_handed I0), (Eqo.refl fwM_L_handed M0)⟩
abbrev fwI_L_leaf : List Nat := []
abbrev fwM_L_leaf : List Nat := [23, 24, 25, 26]
theorem fr_fL_leaf {N : Nat} {I0 : Nat → Int32} {M0 : Nat → Nat → Int32} {x1 : Int32} {x2 : Int32} {o3 : Nat → Int64} {R} (h : fL_leaf N I0 M0 x1 x2 o3 = some R) : Eqo fwI_L_leaf R.2.1 I0 ∧ Eqo fwM_L_leaf R.2.2.1 M0 := by
  unfold fL_leaf at h
  rcases fr_hp h with ⟨k, -, h⟩ | ⟨r, e_r, h⟩
  · rcases fr_i h with h | h
    · have h := Option.some.inj h
      subst h
      exact ⟨(Eqo.refl fwI_L_leaf I0), (Eqo.refl fwM_L_leaf M0)⟩
    · cases h
  · have a1 := fr_fX11_leaf e_r
    have fI_r := a1.1.tr (W := fwI_L_leaf) (by decide) (Eqo.refl fwI_L_leaf I0)
    have fM_r := a1.2.tr (W := fwM_L_leaf) (by decide) (Eqo.refl fwM_L_leaf M0)
    obtain ⟨o3_1, -, h⟩ := wb_v h
    have h := Option.some.inj h
    subst h
    exact ⟨fI_r, fM_r⟩
abbrev fwI_L_order : List Nat := []
abbrev fwM_L_order : List Nat := [23, 24, 25, 26]
theorem fr_fL_order {N : Nat} {I0 : Nat → Int32} {M0 : Nat → Nat → Int32} {x1 : Int32} {x2 : Int32} {x3 : Int32} {o4 : Nat → Int64} {R} (h : fL_order N I0 M0 x1 x2 x3 o4 = some R) : Eqo fwI_L_order R.2.1 I0 ∧ Eqo fwM_L_order R.2.2.1 M0 := by
  unfold fL_order at h
  rcases fr_hp h with ⟨k, -, h⟩ | ⟨r, e_r, h⟩
  · rcases fr_i h with h | h
    · have h := Option.some.inj h
      subst h
      exact ⟨(Eqo.refl fwI_L_order I0), (Eqo.refl fwM_L_order M0)⟩
    · cases h
  · have a1 := fr_fX11_order e_r
    have fI_r := a1.1.tr (W := fwI_L_order) (by decide) (Eqo.refl fwI_L_order I0)
    have fM_r := a1.2.tr (W := fwM_L_order) (by decide) (Eqo.refl fwM_L_order M0)
    obtain ⟨o4_1, -, h⟩ := wb_v h
    have h := Option.some.inj h
    subst h
    exact ⟨fI_r, fM_r⟩
abbrev fwI_L_same : List Nat := []
abbrev fwM_L_same : List Nat := []
theorem fr_fL_same {N : Nat} {I0 : Nat → Int32} {M0 : Nat → Nat → Int32} {x1 : Int32} {x2 : Int32} {x3 : Int32} {o4 : Nat → Int64} {R} (h : fL_same N I0 M0 x1 x2 x3 o4 = some R) : Eqo fwI_L_same R.2.1 I0 ∧ Eqo fwM_L_same R.2.2.1 M0 := by
  unfold fL_same at h
  rcases fr_hp h with ⟨k, -, h⟩ | ⟨r, e_r, h⟩
  · rcases fr_i h with h | h
    · have h := Option.some.inj h
      subst h
      exact ⟨(Eqo.refl fwI_L_same I0), (Eqo.refl fwM_L_same M0)⟩
    · cases h
  · rcases fr_i h with h | h
    · obtain ⟨o4_1, -, h⟩ := wb_v h
      have h := Option.some.inj h
      subst h
      exact ⟨(Eqo.refl fwI_L_same I0), (Eqo.refl fwM_L_same M0)⟩
    · obtain ⟨o4_2, -, h⟩ := wb_v h
      have h := Option.some.inj h
      subst h
      exact ⟨(Eqo.refl fwI_L_same I0), (Eqo.refl fwM_L_same M0)⟩
abbrev fwI_L_births : List Nat := []
abbrev fwM_L_births : List Nat := [27]
theorem fr_fL_births {N : Nat} {I0 : Nat → Int32} {M0 : Nat → Nat → Int32} {x1 : Int32} {x2 : Int32} {o3 : Nat → Int64} {R} (h : fL_births N I0 M0 x1 x2 o3 = some R) : Eqo fwI_L_births R.2.1 I0 ∧ Eqo fwM_L_births R.2.2.1 M0 := by
  unfold fL_births at h
  rcases fr_hp h with ⟨k, -, h⟩ | ⟨r, e_r, h⟩
  · rcases fr_i h with h | h
    · have h := Option.some.inj h
      subst h
      exact ⟨(Eqo.refl fwI_L_births I0), (Eqo.refl fwM_L_births M0)⟩
    · cases h
  · have a1 := fr_fX11_births e_r
    have fI_r := a1.1.tr (W := fwI_L_births) (by decide) (Eqo.refl fwI_L_births I0)
    have fM_r := a1.2.tr (W := fwM_L_births) (by decide) (Eqo.refl fwM_L_births M0)
    obtain ⟨o3_1, -, h⟩ := wb_v h
    have h := Option.some.inj h
    subst h
    exact ⟨fI_r, fM_r⟩
abbrev fwI_L_whence : List Nat := []
abbrev fwM_L_whence : List Nat := []
theorem fr_fL_whence {N : Nat} {I0 : Nat → Int32} {M0 : Nat → Nat → Int32} {x1 : Int32} {o2 : Nat → Int64} {R} (h : fL_whence N I0 M0 x1 o2 = some R) : Eqo fwI_L_whence R.2.1 I0 ∧ Eqo fwM_L_whence R.2.2.1 M0 := by
  unfold fL_whence at h
  rcases fr_hp h with ⟨k, -, h⟩ | ⟨r, e_r, h⟩
  · rcases fr_i h with h | h
    · have h := Option.some.inj h
      subst h
      exact ⟨(Eqo.refl fwI_L_whence I0), (Eqo.refl fwM_L_whence M0)⟩
    · cases h
  · obtain ⟨o2_1, -, h⟩ := wb_v h
    have h := Option.some.inj h
    subst h
    exact ⟨(Eqo.refl fwI_L_whence I0), (Eqo.refl fwM_L_whence M0)⟩
abbrev fwI_L_life : List Nat := []
abbrev fwM_L_life : List Nat := [28, 29, 30, 31, 32, 33]
theorem fr_fL_life {N : Nat} {I0 : Nat → Int32} {M0 : Nat → Nat → Int32} {x1 : Int32} {x2 : Int32} {x3 : Int32} {o4 : Nat → Int64} {R} (h : fL_life N I0 M0 x1 x2 x3 o4 = some R) : Eqo fwI_L_life R.2.1 I0 ∧ Eqo fwM_L_life R.2.2.1 M0 := by
  unfold fL_life at h
  rcases fr_hp h with ⟨k, -, h⟩ | ⟨r, e_r, h⟩
  · rcases fr_i h with h | h
    · have h := Option.some.inj h
      subst h
      exact ⟨(Eqo.refl fwI_L_life I0), (Eqo.refl fwM_L_life M0)⟩
    · cases h
  · have a1 := fr_fX11_life e_r
    have fI_r := a1.1.tr (W := fwI_L_life) (by decide) (Eqo.refl fwI_L_life I0)
    have fM_r := a1.2.tr (W := fwM_L_life) (by decide) (Eqo.refl fwM_L_life M0)
    rcases fr_i h with h | h
    · obtain ⟨o4_1, -, h⟩ := wb_v h
      have h := Option.some.inj h
      subst h
      exact ⟨fI_r, fM_r⟩
    · obtain ⟨o4_2, -, h⟩ := wb_v h
      have h := Option.some.inj h
      subst h
      exact ⟨fI_r, fM_r⟩
abbrev fwI_L_fate : List Nat := []
abbrev fwM_L_fate : List Nat := [28, 29, 30, 31, 32, 33]
theorem fr_fL_fate {N : Nat} {I0 : Nat → Int32} {M0 : Nat → Nat → Int32} {x1 : Int32} {x2 : Int32} {o3 : Nat → Int64} {R} (h : fL_fate N I0 M0 x1 x2 o3 = some R) : Eqo fwI_L_fate R.2.1 I0 ∧ Eqo fwM_L_fate R.2.2.1 M0 := by
  unfold fL_fate at h
  rcases fr_hp h with ⟨k, -, h⟩ | ⟨r, e_r, h⟩
  · rcases fr_i h with h | h
    · have h := Option.some.inj h
      subst h
      exact ⟨(Eqo.refl fwI_L_fate I0), (Eqo.refl fwM_L_fate M0)⟩
    · cases h
  · have a1 := fr_fX11_fate e_r
    have fI_r := a1.1.tr (W := fwI_L_fate) (by decide) (Eqo.refl fwI_L_fate I0)
    have fM_r := a1.2.tr (W := fwM_L_fate) (by decide) (Eqo.refl fwM_L_fate M0)
    rcases fr_i h with h | h
    · obtain ⟨o3_1, -, h⟩ := wb_v h
      have h := Option.some.inj h
      subst h
      exact ⟨fI_r, fM_r⟩
    · obtain ⟨o3_2, -, h⟩ := wb_v h
      have h := Option.some.inj h
      subst h
      exact ⟨fI_r, fM_r⟩
abbrev fwI_L_fates : List Nat := []
abbrev fwM_L_fates : List Nat := [28, 29, 30, 31, 32, 33]
theorem fr_fL_fates {N : Nat} {I0 : Nat → Int32} {M0 : Nat → Nat → Int32} {x1 : Int32} {o2 : Nat → Int64} {R} (h : fL_fates N I0 M0 x1 o2 = some R) : Eqo fwI_L_fates R.2.1 I0 ∧ Eqo fwM_L_fates R.2.2.1 M0 := by
  unfold fL_fates at h
  rcases fr_hp h with ⟨k, -, h⟩ | ⟨r, e_r, h⟩
  · rcases fr_i h with h | h
    · have h := Option.some.inj h
      subst h
      exact ⟨(Eqo.refl fwI_L_fates I0), (Eqo.refl fwM_L_fates M0)⟩
    · cases h
  · have a1 := fr_fX11_fates e_r
    have fI_r := a1.1.tr (W := fwI_L_fates) (by decide) (Eqo.refl fwI_L_fates I0)
    have fM_r := a1.2.tr (W := fwM_L_fates) (by decide) (Eqo.refl fwM_L_fates M0)
    obtain ⟨o2_1, -, h⟩ := wb_v h
    have h := Option.some.inj h
    subst h
    exact ⟨fI_r, fM_r⟩
abbrev fwI_L_hits : List Nat := []
abbrev fwM_L_hits : List Nat := [28, 29, 30, 31, 32, 33]
theorem fr_fL_hits {N : Nat} {I0 : Nat → Int32} {M0 : Nat → Nat → Int32} {x1 : Int32} {x2 : Int32} {o3 : Nat → Int64} {R} (h : fL_hits N I0 M0 x1 x2 o3 = some R) : Eqo fwI_L_hits R.2.1 I0 ∧ Eqo fwM_L_hits R.2.2.1 M0 := by
  unfold fL_hits at h
  rcases fr_hp h with ⟨k, -, h⟩ | ⟨r, e_r, h⟩
  · rcases fr_i h with h | h
    · have h := Option.some.inj h
      subst h
      exact ⟨(Eqo.refl fwI_L_hits I0), (Eqo.refl fwM_L_hits M0)⟩
    · cases h
  · have a1 := fr_fX11_hits e_r
    have fI_r := a1.1.tr (W := fwI_L_hits) (by decide) (Eqo.refl fwI_L_hits I0)
    have fM_r := a1.2.tr (W := fwM_L_hits) (by decide) (Eqo.refl fwM_L_hits M0)
    obtain ⟨o3_1, -, h⟩ := wb_v h
    have h := Option.some.inj h
    subst h
    exact ⟨fI_r, fM_r⟩

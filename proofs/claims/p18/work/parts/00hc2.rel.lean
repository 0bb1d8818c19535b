def PsT (I : Nat → Int32) : Prop := ¬ I 4 = 0 → (I 2).toInt < (I 3).toInt
theorem inc32 {x : Int32} (h : x.toInt ≤ 600) : (x + 1).toInt = x.toInt + 1 := by
  have h1 := Int32.le_toInt x
  have := ia_add x 1 (by rw [show (1 : Int32).toInt = 1 from by decide]; omega) (by rw [show (1 : Int32).toInt = 1 from by decide]; omega)
  rw [this, show (1 : Int32).toInt = 1 from by decide]
theorem sm_let {N : Nat} {M : Nat → Nat → Int32} : ∀ (fu : Nat) (I : Nat → Int32) R, fX9_step_L86 N fu I M = some R → (I 3).toInt ≤ (I 1).toInt → (I 1).toInt ≤ 600 → R.1 2 = I 2 ∧ R.1 4 = I 4 ∧ (I 3).toInt ≤ (R.1 3).toInt ∧ ((I 3).toInt < (I 1).toInt → cL (M 0 (I 3).toInt.toNat) → (I 3).toInt < (R.1 3).toInt) := by
  intro fu
  induction fu with
  | zero => intro I R h; cases (show none = some R from h)
  | succ fu ih =>
    intro I R h h1 h6
    rw [fX9_step_L86.eq_2] at h
    rcases ifr h with ⟨c, h⟩ | ⟨c, h⟩
    · have c := (le32 rfl rfl).mp c
      have h := Option.some.inj h
      subst h
      exact ⟨rfl, rfl, Int.le_refl _, fun q => by omega⟩
    · have c : ¬ _ := fun z => c ((le32 rfl rfl).mpr z)
      obtain ⟨-, h⟩ := wb_n h
      obtain ⟨r, e, h⟩ := wb_b h
      rcases let9 e with ⟨b1, b2⟩ | ⟨b1, b2⟩
      · have h := wb_t b1 h
        have h := Option.some.inj h
        subst h
        exact ⟨rfl, rfl, Int.le_refl _, fun _ q => absurd q b2⟩
      · have h := wb_f (by rw [b1]; decide) h
        obtain ⟨I', eI, h⟩ := wb_v h
        have i1 : I' 1 = I 1 := by rw [eI]; rfl
        have i2 : I' 2 = I 2 := by rw [eI]; rfl
        have i4 : I' 4 = I 4 := by rw [eI]; rfl
        have i3 : (I' 3).toInt = (I 3).toInt + 1 := by
          rw [eI]
          show (I 3 + 1).toInt = _
          exact inc32 (by omega)
        obtain ⟨t1, t2, t3, -⟩ := ih I' R h (by rw [i3, i1]; omega) (by rw [i1]; exact h6)
        exact ⟨t1.trans i2, t2.trans i4, by omega, fun _ _ => by omega⟩
theorem sm_dig {N : Nat} {M : Nat → Nat → Int32} : ∀ (fu : Nat) (I : Nat → Int32) R, fX9_step_L150 N fu I M = some R → (I 3).toInt ≤ (I 1).toInt → (I 1).toInt ≤ 600 → R.1 2 = I 2 ∧ R.1 4 = I 4 ∧ (I 3).toInt ≤ (R.1 3).toInt ∧ ((I 3).toInt < (I 1).toInt → cD (M 0 (I 3).toInt.toNat) → (I 3).toInt < (R.1 3).toInt) := by
  intro fu
  induction fu with
  | zero => intro I R h; cases (show none = some R from h)
  | succ fu ih =>
    intro I R h h1 h6
    rw [fX9_step_L150.eq_2] at h
    rcases ifr h with ⟨c, h⟩ | ⟨c, h⟩
    · have c := (le32 rfl rfl).mp c
      have h := Option.some.inj h
      subst h
      exact ⟨rfl, rfl, Int.le_refl _, fun q => by omega⟩
    · have c : ¬ _ := fun z => c ((le32 rfl rfl).mpr z)
      obtain ⟨-, h⟩ := wb_n h
      obtain ⟨r, e, h⟩ := wb_b h
      rcases dig9 e with ⟨b1, b2⟩ | ⟨b1, b2⟩
      · have h := wb_t b1 h
        have h := Option.some.inj h
        subst h
        exact ⟨rfl, rfl, Int.le_refl _, fun _ q => absurd q b2⟩
      · have h := wb_f (by rw [b1]; decide) h
        have go : ∀ z, fX9_step_J218 N (fun q0 q1 => fX9_step_L150 N fu q0 q1) I M z = some R → R.1 2 = I 2 ∧ R.1 4 = I 4 ∧ (I 3).toInt ≤ (R.1 3).toInt ∧ ((I 3).toInt < (I 1).toInt → cD (M 0 (I 3).toInt.toNat) → (I 3).toInt < (R.1 3).toInt) := by
          intro z h
          unfold fX9_step_J218 at h
          obtain ⟨I1, e1, h⟩ := wb_v h
          obtain ⟨I', eI, h⟩ := wb_v h
          rw [e1] at eI
          have i1 : I' 1 = I 1 := by rw [eI]; rfl
          have i2 : I' 2 = I 2 := by rw [eI]; rfl
          have i4 : I' 4 = I 4 := by rw [eI]; rfl
          have i3 : (I' 3).toInt = (I 3).toInt + 1 := by
            rw [eI]
            show (I 3 + 1).toInt = _
            exact inc32 (by omega)
          obtain ⟨t1, t2, t3, -⟩ := ih I' R h (by rw [i3, i1]; omega) (by rw [i1]; exact h6)
          exact ⟨t1.trans i2, t2.trans i4, by omega, fun _ _ => by omega⟩
        rcases ifr h with ⟨d, h⟩ | ⟨d, h⟩
        · exact go _ h
        · obtain ⟨-, h⟩ := wb_n h
          exact go _ h
theorem sm_j {N : Nat} {M : Nat → Nat → Int32} {I : Nat → Int32} {R : (Nat → Int32) × (Nat → Nat → Int32)} (h : fX9_step_J39 N I M = some R) (h1 : (I 3).toInt ≤ (I 1).toInt) (h6 : (I 1).toInt ≤ 600) : R.1 2 = I 3 ∧ PsT R.1 := by
  unfold fX9_step_J39 at h
  obtain ⟨I3, eI3, h⟩ := wb_v h
  have i1 : I3 1 = I 1 := by rw [eI3]; rfl
  have i2 : I3 2 = I 3 := by rw [eI3]; rfl
  have i3 : I3 3 = I 3 := by rw [eI3]; rfl
  rcases ifr h with ⟨c, h⟩ | ⟨c, h⟩
  · have c := (lt32 rfl rfl).mp c
    obtain ⟨-, h⟩ := wb_n h
    obtain ⟨r4, e4, h⟩ := wb_b h
    rcases let9 e4 with ⟨b1, b2⟩ | ⟨b1, b2⟩
    · have h := wb_t b1 h
      obtain ⟨-, h⟩ := wb_n h
      obtain ⟨r5, e5, h⟩ := wb_b h
      rcases dig9 e5 with ⟨b3, b4⟩ | ⟨b3, b4⟩
      · have h := wb_t b3 h
        obtain ⟨-, h⟩ := wb_n h
        have go : ∀ z, fX9_step_J254 N I3 M z = some R → R.1 2 = I 3 ∧ PsT R.1 := by
          intro z h
          unfold fX9_step_J254 at h
          obtain ⟨I1, e1, h⟩ := wb_v h
          obtain ⟨I', eI, h⟩ := wb_v h
          rw [e1] at eI
          have h := Option.some.inj h
          subst h
          have k2 : I' 2 = I 3 := by rw [eI]; exact i2
          have k3 : (I' 3).toInt = (I3 3).toInt + 1 := by
            rw [eI]
            show (I3 3 + 1).toInt = _
            rw [i1] at c
            exact inc32 (by omega)
          refine ⟨k2, fun _ => ?_⟩
          show (I' 2).toInt < (I' 3).toInt
          rw [k2, k3, i3]; omega
        rcases ifr h with ⟨d, h⟩ | ⟨d, h⟩
        · exact go _ h
        · exact go _ h
      · have h := wb_f (by rw [b3]; decide) h
        obtain ⟨I6, eI6, h⟩ := wb_v h
        obtain ⟨I7, eI7, h⟩ := wb_v h
        rw [eI6] at eI7
        have l1 : I7 1 = I3 1 := by rw [eI7]; rfl
        have l2 : I7 2 = I3 2 := by rw [eI7]; rfl
        have l3 : I7 3 = I3 3 := by rw [eI7]; rfl
        obtain ⟨t1, t2, t3, t4⟩ := sm_dig N I7 R h (by rw [l3, l1]; omega) (by rw [l1, i1]; exact h6)
        refine ⟨t1.trans (l2.trans i2), fun _ => ?_⟩
        have t5 := t4 (by rw [l3, l1]; omega) (by rw [l3]; exact b4)
        rw [t1, l2, i2, ← i3, ← l3]
        exact t5
    · have h := wb_f (by rw [b1]; decide) h
      obtain ⟨I7, eI7, h⟩ := wb_v h
      have l1 : I7 1 = I3 1 := by rw [eI7]; rfl
      have l2 : I7 2 = I3 2 := by rw [eI7]; rfl
      have l3 : I7 3 = I3 3 := by rw [eI7]; rfl
      obtain ⟨t1, t2, t3, t4⟩ := sm_let N I7 R h (by rw [l3, l1]; omega) (by rw [l1, i1]; exact h6)
      refine ⟨t1.trans (l2.trans i2), fun _ => ?_⟩
      have t5 := t4 (by rw [l3, l1]; omega) (by rw [l3]; exact b2)
      rw [t1, l2, i2, ← i3, ← l3]
      exact t5
  · obtain ⟨I', eI, h⟩ := wb_v h
    have h := Option.some.inj h
    subst h
    refine ⟨?_, fun q => absurd ?_ q⟩
    · show I' 2 = I 3
      rw [eI]; exact i2
    · show I' 4 = 0
      rw [eI]; rfl
theorem sm_blk {N : Nat} {M : Nat → Nat → Int32} : ∀ (fu : Nat) (I : Nat → Int32) R, fX9_step_L0 N fu I M = some R → (I 3).toInt ≤ (I 1).toInt → (I 1).toInt ≤ 600 → (I 3).toInt ≤ (R.1 2).toInt ∧ PsT R.1 := by
  intro fu
  induction fu with
  | zero => intro I R h; cases (show none = some R from h)
  | succ fu ih =>
    intro I R h h1 h6
    rw [fX9_step_L0.eq_2] at h
    have fin : fX9_step_J39 N I M = some R → (I 3).toInt ≤ (R.1 2).toInt ∧ PsT R.1 := by
      intro h
      obtain ⟨t1, t2⟩ := sm_j h h1 h6
      exact ⟨by rw [t1]; exact Int.le_refl _, t2⟩
    rcases ifr h with ⟨c, h⟩ | ⟨c, h⟩
    · exact fin h
    · have c : ¬ _ := fun z => c ((le32 rfl rfl).mpr z)
      obtain ⟨-, h⟩ := wb_n h
      obtain ⟨r, e, h⟩ := wb_b h
      rcases ifr h with ⟨d, h⟩ | ⟨d, h⟩
      · exact fin h
      · obtain ⟨I', eI, h⟩ := wb_v h
        have i1 : I' 1 = I 1 := by rw [eI]; rfl
        have i3 : (I' 3).toInt = (I 3).toInt + 1 := by
          rw [eI]
          show (I 3 + 1).toInt = _
          exact inc32 (by omega)
        obtain ⟨t1, t2⟩ := ih I' R h (by rw [i3, i1]; omega) (by rw [i1]; exact h6)
        exact ⟨by omega, t2⟩
theorem st_mono {N : Nat} {M : Nat → Nat → Int32} {I : Nat → Int32} {R : (Nat → Int32) × (Nat → Nat → Int32)} (h : fX9_step N I M = some R) (h1 : (I 3).toInt ≤ (I 1).toInt) (h6 : (I 1).toInt ≤ 600) : (I 3).toInt ≤ (R.1 2).toInt ∧ PsT R.1 := sm_blk N I R h h1 h6

/-! SEARCHES of both -/
theorem ni1e6 : (1000000 : Int32).toInt = 1000000 := by decide
theorem ni1 : (1 : Int32).toInt = 1 := by decide
theorem ni0 : (0 : Int32).toInt = 0 := by decide
theorem nim1 : (-1 : Int32).toInt = -1 := by decide
theorem p1i {x : Int32} (h : x.toInt ≤ 2000000) : (x + 1).toInt = x.toInt + 1 := by
  have := Int32.le_toInt x
  have a := ia_add x 1 (by rw [ni1]; omega) (by rw [ni1]; omega)
  rw [ni1] at a
  exact a
/-- what a COST changes in the class's SEARCH -/
theorem la8 {N : Nat} {I : Nat → Int32} {M : Nat → Nat → Int32} {x : Int32} {R : (Nat → Int32) × (Nat → Nat → Int32)} (h : fX8_lookAt N I M x = some R) : (¬ x ≤ I 4 ∧ R = (I, M)) ∨ (x ≤ I 4 ∧ I 4 ≤ x ∧ R.1 = upd (upd I 5 (I 5 + 1)) 6 (I 3) ∧ ((20 ≤ I 5 ∧ R.2 = M) ∨ (¬ 20 ≤ I 5 ∧ ¬ I 5 < 0 ∧ R.2 = wb_um M 0 (I 5).toNatClampNeg (I 3)))) ∨ (x ≤ I 4 ∧ ¬ I 4 ≤ x ∧ R.1 = upd (upd (upd (upd I 4 x) 5 0) 5 (0 + 1)) 6 (I 3) ∧ R.2 = wb_um M 0 0 (I 3)) := by
  unfold fX8_lookAt at h
  rcases ifr h with ⟨c, h⟩ | ⟨c, h⟩
  · rcases ifr h with ⟨d, h⟩ | ⟨d, h⟩
    · refine Or.inr (Or.inl ⟨c, d, ?_⟩)
      unfold fX8_lookAt_J27 at h
      rcases ifr h with ⟨e, h⟩ | ⟨e, h⟩
      · unfold fX8_lookAt_J49 at h
        have h := Option.some.inj h
        rw [← h]
        exact ⟨rfl, Or.inl ⟨e, rfl⟩⟩
      · obtain ⟨n, h⟩ := wb_n h
        unfold fX8_lookAt_J49 at h
        have h := Option.some.inj h
        rw [← h]
        exact ⟨rfl, Or.inr ⟨e, fun z => n (Or.inl z), rfl⟩⟩
    · refine Or.inr (Or.inr ⟨c, d, ?_⟩)
      obtain ⟨i4, e4, h⟩ := wb_v h
      obtain ⟨i5, e5, h⟩ := wb_v h
      have z5 : i5 5 = 0 := by rw [e5]; rfl
      have z3 : i5 3 = I 3 := by rw [e5, e4]; rfl
      unfold fX8_lookAt_J27 at h
      rw [z5] at h
      have h := wb_f (c := (20 : Int32) ≤ 0) (by decide) h
      obtain ⟨-, h⟩ := wb_n h
      unfold fX8_lookAt_J49 at h
      have h := Option.some.inj h
      rw [← h]
      refine ⟨?_, ?_⟩
      · show upd (upd i5 5 (i5 5 + 1)) 6 (i5 3) = _
        rw [z5, z3, e5, e4]
      · show wb_um M 0 (0 : Int32).toNatClampNeg (i5 3) = _
        rw [z3]
        rfl
  · exact Or.inl ⟨c, (Option.some.inj h).symm⟩
noncomputable def QS (i m0 k : Nat → Int32) : Prop := i 1 = k 0 ∧ i 2 = k 1 ∧ i 3 = k 2 ∧ (0 ≤ (i 1).toInt ∧ (i 1).toInt ≤ 119) ∧ (0 ≤ (i 2).toInt ∧ (i 2).toInt ≤ 3) ∧ (0 ≤ (i 3).toInt ∧ (i 3).toInt ≤ 1000001) ∧ ((i 4 = 1000 ∧ i 5 = 0 ∧ i 6 = -1 ∧ k 3 = -1 ∧ k 4 = 0 ∧ k 5 = -1 ∧ k 6 = -1) ∨ (i 4 = k 3 ∧ (0 ≤ (i 4).toInt ∧ (i 4).toInt ≤ 93) ∧ i 5 = k 4 ∧ 1 ≤ (i 5).toInt ∧ (i 5).toInt ≤ (i 3).toInt ∧ m0 0 = k 5 ∧ i 6 = k 6))
theorem k12_0 : (0 : Int32).toNatClampNeg = 0 := by decide
theorem k12_1 : (1 : Int32).toNatClampNeg = 1 := by decide
theorem k12_2 : (2 : Int32).toNatClampNeg = 2 := by decide
theorem k12_3 : (3 : Int32).toNatClampNeg = 3 := by decide
theorem k12_4 : (4 : Int32).toNatClampNeg = 4 := by decide
theorem k12_5 : (5 : Int32).toNatClampNeg = 5 := by decide
theorem k12_6 : (6 : Int32).toNatClampNeg = 6 := by decide
/-- behind the reference's look at a COST: the DAY goes on -/
theorem j173s {N : Nat} {x y : Int32} {gg : (Nat → Int32) → Int64 → (Nat → Nat → Int32) → Int32 → Option (Int32 × (Nat → Int32) × Int64 × (Nat → Nat → Int32))} {J : Nat → Int32} {L : Int64} {K : Nat → Nat → Int32} {S : Int32 × (Nat → Int32) × Int64 × (Nat → Nat → Int32)} (h : fX12_on_J173 N x gg J L K y = some S) : gg J L (wb_um K 18 2 (K 18 2 + 1)) (y + 1) = some S := by
  unfold fX12_on_J173 at h
  rw [k12_2] at h
  obtain ⟨-, h⟩ := wb_n h
  obtain ⟨-, h⟩ := wb_n h
  obtain ⟨k5, e5, h⟩ := wb_v h
  obtain ⟨v6, e6, h⟩ := wb_v h
  rw [e5, e6] at h
  exact h
theorem j144s {N : Nat} {x y d v : Int32} {gg : (Nat → Int32) → Int64 → (Nat → Nat → Int32) → Int32 → Option (Int32 × (Nat → Int32) × Int64 × (Nat → Nat → Int32))} {J : Nat → Int32} {L : Int64} {K : Nat → Nat → Int32} {S : Int32 × (Nat → Int32) × Int64 × (Nat → Nat → Int32)} (h : fX12_on_J144 N x gg J L K y d v = some S) : (v = K 18 3 ∧ fX12_on_J173 N x gg J L (wb_um (wb_um K 18 4 (K 18 4 + 1)) 18 6 d) y = some S) ∨ (¬ v = K 18 3 ∧ fX12_on_J173 N x gg J L K y = some S) := by
  unfold fX12_on_J144 at h
  rw [k12_3, k12_4, k12_6] at h
  obtain ⟨-, h⟩ := wb_n h
  rcases ifr h with ⟨c, h⟩ | ⟨c, h⟩
  · obtain ⟨-, h⟩ := wb_n h
    obtain ⟨-, h⟩ := wb_n h
    obtain ⟨k7, e7, h⟩ := wb_v h
    obtain ⟨-, h⟩ := wb_n h
    obtain ⟨k8, e8, h⟩ := wb_v h
    rw [e8, e7] at h
    exact Or.inl ⟨c, h⟩
  · exact Or.inr ⟨c, h⟩
theorem j122s {N : Nat} {x y d v : Int32} {gg : (Nat → Int32) → Int64 → (Nat → Nat → Int32) → Int32 → Option (Int32 × (Nat → Int32) × Int64 × (Nat → Nat → Int32))} {J : Nat → Int32} {L : Int64} {K : Nat → Nat → Int32} {S : Int32 × (Nat → Int32) × Int64 × (Nat → Nat → Int32)} (h : fX12_on_J122 N x gg J L K y d v = some S) : fX12_on_J144 N x gg J L (wb_um (wb_um (wb_um K 18 3 v) 18 4 0) 18 5 d) y d v = some S := by
  unfold fX12_on_J122 at h
  rw [k12_3, k12_4, k12_5] at h
  obtain ⟨-, h⟩ := wb_n h
  obtain ⟨k7, e7, h⟩ := wb_v h
  obtain ⟨-, h⟩ := wb_n h
  obtain ⟨k8, e8, h⟩ := wb_v h
  obtain ⟨-, h⟩ := wb_n h
  obtain ⟨k9, e9, h⟩ := wb_v h
  rw [e9, e8, e7] at h
  exact h
/-- a look at a COST, of both -/
theorem lk_s {N N2 : Nat} {I : Nat → Int32} {M K : Nat → Nat → Int32} {v : Int32} {R : (Nat → Int32) × (Nat → Nat → Int32)} (q : QS I (M 0) (K 18)) (h3 : (I 3).toInt ≤ 1000000) (v0 : 0 ≤ v.toInt) (v1 : v.toInt ≤ 93) (h : fX8_lookAt N I M v = some R) : (R.1 3 = I 3 ∧ R.1 1 = I 1 ∧ R.1 2 = I 2 ∧ R.1 0 = I 0) ∧ ∀ (x y : Int32) (gg : (Nat → Int32) → Int64 → (Nat → Nat → Int32) → Int32 → Option (Int32 × (Nat → Int32) × Int64 × (Nat → Nat → Int32))) (J : Nat → Int32) (L : Int64) S, ((K 18 3 = -1 → fX12_on_J122 N2 x gg J L K y (K 18 2) v = some S) ∧ (¬ K 18 3 = -1 → K 18 3 ≤ v → fX12_on_J144 N2 x gg J L K y (K 18 2) v = some S) ∧ (¬ K 18 3 = -1 → ¬ K 18 3 ≤ v → fX12_on_J122 N2 x gg J L K y (K 18 2) v = some S)) → ∃ k : Nat → Int32, QS (upd R.1 3 (R.1 3 + 1)) (R.2 0) k ∧ gg J L (wb_mm K 18 k) (y + 1) = some S := by
  obtain ⟨q1, q2, q3, g1, g2, g3, q⟩ := q
  have t1000 : (1000 : Int32).toInt = 1000 := by decide
  have tt : (I 3 + 1).toInt = (I 3).toInt + 1 := p1i (by omega)
  have mm : ∀ (K : Nat → Nat → Int32) (i : Nat) (x : Int32), wb_um K 18 i x = wb_mm K 18 (upd (K 18) i x) := fun K i x => rfl
  have m2 : ∀ (K : Nat → Nat → Int32) (f g : Nat → Int32), wb_mm (wb_mm K 18 f) 18 g = wb_mm K 18 g := by
    intro K f g
    funext j
    unfold wb_mm
    by_cases e : j = 18
    · rw [if_pos e, if_pos e]
    · rw [if_neg e, if_neg e, if_neg e]
  -- the new least: both begin anew
  have new : (R.1 = upd (upd (upd (upd I 4 v) 5 0) 5 (0 + 1)) 6 (I 3) ∧ R.2 = wb_um M 0 0 (I 3)) → ∀ (x y : Int32) (gg : (Nat → Int32) → Int64 → (Nat → Nat → Int32) → Int32 → Option (Int32 × (Nat → Int32) × Int64 × (Nat → Nat → Int32))) (J : Nat → Int32) (L : Int64) S, fX12_on_J122 N2 x gg J L K y (K 18 2) v = some S → ∃ k : Nat → Int32, QS (upd R.1 3 (R.1 3 + 1)) (R.2 0) k ∧ gg J L (wb_mm K 18 k) (y + 1) = some S := by
    intro e x y gg J L S g
    rcases j144s (j122s g) with ⟨c, g⟩ | ⟨c, -⟩
    · have g := j173s g
      simp only [mm, m2] at g
      refine ⟨_, ?_, g⟩
      rw [e.1, e.2]
      refine ⟨q1, q2, ?_, g1, g2, ?_, Or.inr ⟨rfl, ⟨v0, v1⟩, rfl, ?_, ?_, ?_, ?_⟩⟩
      · show I 3 + 1 = K 18 2 + 1
        rw [q3]
      · show 0 ≤ (I 3 + 1).toInt ∧ (I 3 + 1).toInt ≤ 1000001
        rw [tt]; omega
      · show 1 ≤ ((0 : Int32) + 1).toInt
        decide
      · show ((0 : Int32) + 1).toInt ≤ (I 3 + 1).toInt
        rw [tt, show ((0 : Int32) + 1).toInt = 1 from by decide]; omega
      · exact q3
      · exact q3
    · exact absurd rfl c
  rcases la8 h with ⟨c, e⟩ | ⟨c, d, e, f⟩ | ⟨c, d, e, f⟩
  · -- above
    refine ⟨by rw [e]; exact ⟨rfl, rfl, rfl, rfl⟩, fun x y gg J L S g => ?_⟩
    rcases q with ⟨a1, -⟩ | ⟨a1, a2, a3, a4, a5, a6, a7⟩
    · exfalso
      refine c (Int32.le_iff_toInt_le.mpr ?_)
      rw [a1, t1000]; omega
    · have hk : ¬ K 18 3 = -1 := by
        intro z
        rw [← a1] at z
        rw [z, nim1] at a2
        omega
      have hle : K 18 3 ≤ v := by
        rw [← a1]
        have c : ¬ _ := fun z => c (Int32.le_iff_toInt_le.mpr z)
        exact Int32.le_iff_toInt_le.mpr (by omega)
      rcases j144s (g.2.1 hk hle) with ⟨w, -⟩ | ⟨-, g⟩
      · exact absurd (Int32.le_iff_toInt_le.mpr (by rw [w, a1]; omega)) c
      · have g := j173s g
        simp only [mm] at g
        refine ⟨_, ?_, g⟩
        rw [e]
        refine ⟨q1, q2, ?_, g1, g2, ?_, Or.inr ⟨a1, a2, a3, a4, ?_, a6, a7⟩⟩
        · show I 3 + 1 = K 18 2 + 1
          rw [q3]
        · show 0 ≤ (I 3 + 1).toInt ∧ (I 3 + 1).toInt ≤ 1000001
          rw [tt]; omega
        · show (I 5).toInt ≤ (I 3 + 1).toInt
          rw [tt]; omega
  · -- alike
    refine ⟨by rw [e]; exact ⟨rfl, rfl, rfl, rfl⟩, fun x y gg J L S g => ?_⟩
    have c := Int32.le_iff_toInt_le.mp c
    have d := Int32.le_iff_toInt_le.mp d
    rcases q with ⟨a1, -⟩ | ⟨a1, a2, a3, a4, a5, a6, a7⟩
    · exfalso
      rw [a1, t1000] at d
      omega
    · have hk : ¬ K 18 3 = -1 := by
        intro z
        rw [← a1] at z
        rw [z, nim1] at a2
        omega
      have hle : K 18 3 ≤ v := by
        rw [← a1]
        exact Int32.le_iff_toInt_le.mpr (by omega)
      rcases j144s (g.2.1 hk hle) with ⟨-, g⟩ | ⟨w, -⟩
      · have g := j173s g
        simp only [mm, m2] at g
        refine ⟨_, ?_, g⟩
        have t5 : (I 5 + 1).toInt = (I 5).toInt + 1 := p1i (by omega)
        rw [e]
        refine ⟨q1, q2, ?_, g1, g2, ?_, Or.inr ⟨a1, a2, ?_, ?_, ?_, ?_, ?_⟩⟩
        · show I 3 + 1 = K 18 2 + 1
          rw [q3]
        · show 0 ≤ (I 3 + 1).toInt ∧ (I 3 + 1).toInt ≤ 1000001
          rw [tt]; omega
        · show I 5 + 1 = K 18 4 + 1
          rw [a3]
        · show 1 ≤ (I 5 + 1).toInt
          rw [t5]; omega
        · show (I 5 + 1).toInt ≤ (I 3 + 1).toInt
          rw [t5, tt]; omega
        · rcases f with ⟨-, f⟩ | ⟨-, -, f⟩
          · rw [f]; exact a6
          · rw [f]
            show upd (M 0) (I 5).toNatClampNeg (I 3) 0 = K 18 5
            have hne : ¬ (0 : Nat) = (I 5).toNatClampNeg := by
              rw [cl32]; omega
            unfold upd
            rw [if_neg hne]
            exact a6
        · exact q3
      · exfalso
        exact w (by rw [← a1]; exact t32 (by omega))
  · -- below
    refine ⟨by rw [e]; exact ⟨rfl, rfl, rfl, rfl⟩, fun x y gg J L S g => ?_⟩
    refine new ⟨e, f⟩ x y gg J L S ?_
    rcases q with ⟨a1, a2, a3, a4, -⟩ | ⟨a1, a2, a3, a4, a5, a6, a7⟩
    · exact g.1 a4
    · refine g.2.2 ?_ ?_
      · intro z
        rw [← a1] at z
        rw [z, nim1] at a2
        omega
      · rw [← a1]; exact d

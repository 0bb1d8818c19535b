/-! THE LOT alike -/
theorem rm360 {x : Int32} (h0 : 0 ≤ x.toInt) : (x - x / 360 * 360).toInt = x.toInt % 360 := ia_rem x 360 360 n360 (by omega) h0
/-- THE LOT, as a number -/
noncomputable def lotv (r s m : Int) : Int := if (r - s) % 360 < 180 then (r + m - s) % 360 else (r + s - m) % 360
/-- the reference's, behind its checks -/
theorem lt12 {N : Nat} {x1 x2 x3 n s m r : Int32} {J : Nat → Int32} {L : Int64} {K : Nat → Nat → Int32} {S : Int32 × (Nat → Int32) × Int64 × (Nat → Nat → Int32)} (hs : 0 ≤ s.toInt ∧ s.toInt ≤ 359) (hm : 0 ≤ m.toInt ∧ m.toInt ≤ 359) (hr : 0 ≤ r.toInt ∧ r.toInt ≤ 359) (h : fX12_lot_J106 N x1 x2 x3 J L K n s m r = some S) : ∃ v : Int32, v.toInt = lotv r.toInt s.toInt m.toInt ∧ fX12_lot_J165 N x1 x2 x3 J L K n v = some S := by
  have n180 : (180 : Int32).toInt = 180 := by decide
  unfold fX12_lot_J106 at h
  obtain ⟨v3, e3, h⟩ := wb_v h
  have y1 := ia_sub m s (by omega) (by omega)
  have y2 := ia_add (m - s) 360 (by rw [n360]; omega) (by rw [n360]; omega)
  rw [n360, y1] at y2
  have y3 := rm360 (x := m - s + 360) (by omega)
  rw [← e3, y2] at y3
  have z1 := ia_sub r s (by omega) (by omega)
  have z2 := ia_add (r - s) 360 (by rw [n360]; omega) (by rw [n360]; omega)
  rw [n360, z1] at z2
  have z3 := rm360 (x := r - s + 360) (by omega)
  rw [z2] at z3
  clear e3
  unfold lotv
  rcases ifr h with ⟨c, h⟩ | ⟨c, h⟩
  · have c := (le32 n180 z3).mp c
    have w1 := ia_sub r v3 (by omega) (by omega)
    have w2 := ia_add (r - v3) 360 (by rw [n360]; omega) (by rw [n360]; omega)
    rw [n360, w1] at w2
    have w3 := rm360 (x := r - v3 + 360) (by omega)
    refine ⟨_, ?_, h⟩
    rw [if_neg (by omega), w3, w2]
    omega
  · have c : ¬ _ := fun z => c ((le32 n180 z3).mpr z)
    have w1 := ia_add r v3 (by omega) (by omega)
    have w3 := rm360 (x := r + v3) (by omega)
    refine ⟨_, ?_, h⟩
    rw [if_pos (by omega), w3, w1]
    omega
/-! what can be -/
/-- what the reference does with a climate, ways asked for -/
theorem p164 {N2 : Nat} {J : Nat → Int32} {L : Int64} {K : Nat → Nat → Int32} {n x1 x2 v6 y1 x r : Int32} {g88 : (Nat → Int32) → Int64 → (Nat → Nat → Int32) → Int32 → Int32 → Option (Int32 × (Nat → Int32) × Int64 × (Nat → Nat → Int32))} {g126 : (Nat → Int32) → Int64 → (Nat → Nat → Int32) → Int32 → Int32 → Int32 → Option (Int32 × (Nat → Int32) × Int64 × (Nat → Nat → Int32))} {fv : Nat} {S : Int32 × (Nat → Int32) × Int64 × (Nat → Nat → Int32)} (g : fX12_possible_L164 N2 x1 x2 0 r v6 y1 x n g88 g126 fv J L K 0 0 = some S) : g126 J L K v6 y1 (x + 1) = some S := by
  cases fv with
  | zero => cases (show none = some S from g)
  | succ fv =>
    rw [fX12_possible_L164.eq_2] at g
    have g := wb_f (c := (0 : Int32) = 1) (by decide) (wb_f (c := (360 : Int32) ≤ 0) (by decide) g)
    unfold fX12_possible_J208 at g
    have g := wb_t (c := (0 : Int32) = 0) rfl g
    obtain ⟨w, ew, g⟩ := wb_v g
    rw [ew] at g
    exact g
/-- 'all houses AGREE', of both -/
noncomputable def AGQ (N N2 : Nat) (I1 : Nat → Int32) (m1 : Nat → Nat → Int32) (I : Nat → Int32) (M : Nat → Nat → Int32) (J : Nat → Int32) (L : Int64) (K : Nat → Nat → Int32) (n told : Int32) : Prop := ∀ w x a b, (w = 0 ∨ w = 1 ∨ (w = 2 ∧ 0 ≤ x.toInt ∧ x.toInt < (J 1).toInt)) → fX1_howManyDiffer N I (wb_sh M 13) I1 m1 n w x = some a → fX12_agrees N2 J L K n w x = some b → (b = told ↔ a = 0)
/-- the two ways without a climate -/
theorem w88 {N N2 : Nat} {I0 J : Nat → Int32} {L : Int64} {M0 K : Nat → Nat → Int32} {n told x1 x2 x3 d0 d1 : Int32} (hq : AGQ N N2 (wb_sh I0 9) (wb_sh M0 5) (wb_sh I0 13) M0 J L K n told) (f0 : fX1_howManyDiffer N (wb_sh I0 13) (wb_sh M0 13) (wb_sh I0 9) (wb_sh M0 5) n 0 0 = some d0) (f1 : fX1_howManyDiffer N (wb_sh I0 13) (wb_sh M0 13) (wb_sh I0 9) (wb_sh M0 5) n 1 0 = some d1) {fv : Nat} {S : Int32 × (Nat → Int32) × Int64 × (Nat → Nat → Int32)} (g : fX12_possible_L88 N2 x1 x2 x3 told n fv J L K 0 0 = some S) : ∃ (g88 : (Nat → Int32) → Int64 → (Nat → Nat → Int32) → Int32 → Int32 → Option (Int32 × (Nat → Int32) × Int64 × (Nat → Nat → Int32))), fX12_possible_L126 N2 x1 x2 x3 told n g88 N2 J L K ((if d0 = 0 then (0 : Int32) ||| 1 else 0) ||| (if d1 = 0 then (2 : Int32) else 0)) 0 0 = some S := by
  have a0 : (0 : Int32) ||| ((1 : Int32) <<< (0 &&& 31)) = 1 := by decide
  have fin : ∀ (fv : Nat) (v : Int32), fX12_possible_L88 N2 x1 x2 x3 told n fv J L K v 2 = some S → ∃ (g88 : (Nat → Int32) → Int64 → (Nat → Nat → Int32) → Int32 → Int32 → Option (Int32 × (Nat → Int32) × Int64 × (Nat → Nat → Int32))), fX12_possible_L126 N2 x1 x2 x3 told n g88 N2 J L K v 0 0 = some S := by
    intro fv v g
    cases fv with
    | zero => cases (show none = some S from g)
    | succ fv =>
      rw [fX12_possible_L88.eq_2] at g
      exact ⟨_, wb_t (c := (2 : Int32) ≤ 2) (by decide) g⟩
  have snd : ∀ (fv : Nat) (v : Int32), (v = 0 ∨ v = 1) → fX12_possible_L88 N2 x1 x2 x3 told n fv J L K v 1 = some S → ∃ (g88 : (Nat → Int32) → Int64 → (Nat → Nat → Int32) → Int32 → Int32 → Option (Int32 × (Nat → Int32) × Int64 × (Nat → Nat → Int32))), fX12_possible_L126 N2 x1 x2 x3 told n g88 N2 J L K (v ||| (if d1 = 0 then (2 : Int32) else 0)) 0 0 = some S := by
    intro fv v hv g
    cases fv with
    | zero => cases (show none = some S from g)
    | succ fv =>
      rw [fX12_possible_L88.eq_2] at g
      have g := wb_f (c := (2 : Int32) ≤ 1) (by decide) g
      obtain ⟨r, e, g⟩ := wb_b g
      have q := hq 1 0 d1 r (Or.inr (Or.inl rfl)) f1 e
      rcases ifr g with ⟨c, g⟩ | ⟨c, g⟩
      · obtain ⟨w1, k1, g⟩ := wb_v g
        obtain ⟨w2, k2, g⟩ := wb_v g
        rw [k1, k2, show (1 : Int32) + 1 = 2 from by decide, show (1 : Int32) <<< ((1 : Int32) &&& 31) = 2 from by decide] at g
        rw [if_pos (q.mp c)]
        exact fin fv _ g
      · obtain ⟨w1, k1, g⟩ := wb_v g
        rw [k1, show (1 : Int32) + 1 = 2 from by decide] at g
        rw [if_neg (fun z => c (q.mpr z)), show v ||| (0 : Int32) = v from by rcases hv with z | z <;> rw [z] <;> decide]
        exact fin fv _ g
  cases fv with
  | zero => cases (show none = some S from g)
  | succ fv =>
    rw [fX12_possible_L88.eq_2] at g
    have g := wb_f (c := (2 : Int32) ≤ 0) (by decide) g
    obtain ⟨r, e, g⟩ := wb_b g
    have q := hq 0 0 d0 r (Or.inl rfl) f0 e
    rcases ifr g with ⟨c, g⟩ | ⟨c, g⟩
    · obtain ⟨w1, k1, g⟩ := wb_v g
      obtain ⟨w2, k2, g⟩ := wb_v g
      rw [k1, k2, a0, show (0 : Int32) + 1 = 1 from by decide] at g
      rw [if_pos (q.mp c), show (0 : Int32) ||| 1 = 1 from by decide]
      exact snd fv 1 (Or.inr rfl) g
    · obtain ⟨w1, k1, g⟩ := wb_v g
      rw [k1, show (0 : Int32) + 1 = 1 from by decide] at g
      rw [if_neg (fun z => c (q.mpr z))]
      exact snd fv 0 (Or.inl rfl) g

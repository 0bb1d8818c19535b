/-! p1, pure: what the law asks of two answers -/
theorem wb_xb_r {α β : Type} (a : α) (f : α → Option (Nat ⊕ β)) : wb_xb (some (.inr a)) f = f a := rfl
theorem wb_xb_l {α β : Type} (k : Nat) (f : α → Option (Nat ⊕ β)) : wb_xb (some (.inl k)) f = some (.inl k) := rfl
theorem wb_ok_s {α : Type} (a : α) : wb_ok (some a) = some (.inr a) := rfl
theorem wb_hp_r {α β : Type} (a : α) (g : Nat → Option β) (f : α → Option β) : wb_hp (some (.inr a)) g f = f a := rfl
theorem wb_hp_l {α β : Type} (k : Nat) (g : Nat → Option β) (f : α → Option β) : wb_hp (some (.inl k)) g f = g k := rfl
theorem lg_cmp_rf (x : Int64) : lg_cmp x x = 0 := by unfold lg_cmp; rw [if_neg (fun h => Int64.lt_irrefl h), if_pos rfl]
abbrev P1X := Int32 × (Nat → Int32) × (Nat → Nat → Int32) × (Nat → Int64)
abbrev P1M := Int32 × (Nat → Int32) × Int64 × (Nat → Nat → Int32)
def p1_t (X : Option P1X) (Y : Option P1M) : Prop := ∃ r1 r3, X = some r1 ∧ Y = some r3 ∧ r3.2.1 0 = r1.1 ∧ (r1.1 = 0 → r1.2.2.2 0 = r3.1.toInt64)
def p1_z (X : Option P1X) (Y : Option P1M) : Prop := ∃ r1 r3, X = some r1 ∧ Y = some r3 ∧ r3.2.1 0 = r1.1 ∧ (r1.1 = 0 → r1.2.2.2 0 = if r3.1 = 0 then 0 else 1)
theorem p1_tA {N : Nat} {X : Option P1X} {Y : Option P1M} (h : p1_t X Y) : ∃ R, (X.bind fun r1 => (some (r1.1)).bind fun v2 => Y.bind fun r3 => (some (r3.1)).bind fun v4 => (fX12_thrown N r3.2.1 r3.2.2.1 r3.2.2.2).bind fun r5 => if r5 = v2 then (if v2 = 0 then (if (lg_cmp (r1.2.2.2 ((0 : Int32)).toNatClampNeg) v4.toInt64) = 0 then (some (r1.2.1, r1.2.2.1, r3.2.1, r3.2.2.1, r3.2.2.2, r1.2.2.2)) else none) else some (r1.2.1, r1.2.2.1, r3.2.1, r3.2.2.1, r3.2.2.2, r1.2.2.2)) else none) = some R := by
  obtain ⟨r1, r3, rfl, rfl, h1, h2⟩ := h
  refine ⟨(r1.2.1, r1.2.2.1, r3.2.1, r3.2.2.1, r3.2.2.2, r1.2.2.2), ?_⟩
  simp only [Option.bind_some, fX12_thrown]
  rw [if_pos h1]
  by_cases h0 : r1.1 = 0
  · rw [if_pos h0]
    have h3 : r1.2.2.2 ((0 : Int32)).toNatClampNeg = r3.1.toInt64 := h2 h0
    rw [h3, lg_cmp_rf, if_pos rfl]
  · rw [if_neg h0]
theorem p1_tZ {N : Nat} {X : Option P1X} {Y : Option P1M} (h : p1_z X Y) : ∃ R, (X.bind fun r1 => (some (r1.1)).bind fun v2 => Y.bind fun r3 => (some (r3.1)).bind fun v4 => (fX12_thrown N r3.2.1 r3.2.2.1 r3.2.2.2).bind fun r5 => if r5 = v2 then (if v2 = 0 then (if v4 = 0 then (if (lg_cmp (r1.2.2.2 ((0 : Int32)).toNatClampNeg) (0 : Int64)) = 0 then (some (r1.2.1, r1.2.2.1, r3.2.1, r3.2.2.1, r3.2.2.2, r1.2.2.2)) else none) else if (lg_cmp (r1.2.2.2 ((0 : Int32)).toNatClampNeg) (1 : Int64)) = 0 then (some (r1.2.1, r1.2.2.1, r3.2.1, r3.2.2.1, r3.2.2.2, r1.2.2.2)) else none) else some (r1.2.1, r1.2.2.1, r3.2.1, r3.2.2.1, r3.2.2.2, r1.2.2.2)) else none) = some R := by
  obtain ⟨r1, r3, rfl, rfl, h1, h2⟩ := h
  refine ⟨(r1.2.1, r1.2.2.1, r3.2.1, r3.2.2.1, r3.2.2.2, r1.2.2.2), ?_⟩
  simp only [Option.bind_some, fX12_thrown]
  rw [if_pos h1]
  by_cases h0 : r1.1 = 0
  · rw [if_pos h0]
    have h3 : r1.2.2.2 ((0 : Int32)).toNatClampNeg = if r3.1 = 0 then 0 else 1 := h2 h0
    rw [h3]
    by_cases h4 : r3.1 = 0
    · rw [if_pos h4, if_pos h4, lg_cmp_rf, if_pos rfl]
    · rw [if_neg h4, if_neg h4, lg_cmp_rf, if_pos rfl]
  · rw [if_neg h0]
def fm_2 : Nat → Int32 := upd fm_0 0 2
theorem wp_10 : ¬ (1 : Int32) = 0 := by decide
theorem wp_r1 (N : Nat) (w : Int32) : fX12_right N fm_0 0 fm_M 1 w = some (1, fm_0, 0, fm_M) := rfl
theorem wp_r0 (N : Nat) : fX12_right N fm_0 0 fm_M 0 1 = some (0, fm_1, 0, fm_M) := rfl
theorem wp_r2 (N : Nat) : fX12_right N fm_0 0 fm_M 0 2 = some (0, fm_2, 0, fm_M) := rfl
theorem wp_u0 : (some (upd fm_I 0 (0 : Int32)) : Option (Nat → Int32)) = some fm_0 := rfl
theorem wp_n0 (N : Nat) : fX11_need N 0 = some (.inl 1) := rfl
theorem wp_n1 (N : Nat) : fX11_need N 1 = some (.inr ()) := rfl
theorem wp_a0 (N : Nat) : fX11_allow N 0 = some (.inl 2) := rfl
theorem wp_a1 (N : Nat) : fX11_allow N 1 = some (.inr ()) := rfl
theorem wp_bk (N : Nat) (x : Int32) : (fX11_isBook N x = some 0 ∧ fX12_isBook N fm_0 0 fm_M x = some (0, fm_1, 0, fm_M)) ∨ ∃ i : Nat, i ≤ 5 ∧ x = nI i ∧ fX11_isBook N x = some 1 ∧ fX12_isBook N fm_0 0 fm_M x = some (1, fm_0, 0, fm_M) := by
  unfold fX11_isBook fX12_isBook
  rcases wp_cl (x := x) 5 (by decide) with h | h | ⟨i, hi, rfl⟩
  · left
    refine ⟨?_, ?_⟩
    · unfold fX11_within; rw [if_pos h]; rfl
    · rw [if_pos h]; rfl
  · left
    have h2 : (6 : Int32) ≤ x := wp_ge (n := 5) (by decide) h
    have h3 : (5 : Int32) < x := h
    refine ⟨?_, ?_⟩
    · unfold fX11_within
      by_cases h0 : x < 0
      · rw [if_pos h0]; rfl
      · rw [if_neg h0, if_pos h3]; rfl
    · by_cases h0 : x < 0
      · rw [if_pos h0]; rfl
      · rw [if_neg h0, if_pos h2]; rfl
  · right
    have a1 : ¬ nI i < 0 := nI_pos (by omega)
    have a2 : ¬ (5 : Int32) < nI i := nI_nlt (b := i) (a := 5) hi (by decide)
    have a3 : ¬ (6 : Int32) ≤ nI i := nI_ge (a := i) (b := 6) (by omega) (by decide)
    refine ⟨i, hi, rfl, ?_, ?_⟩
    · unfold fX11_within; rw [if_neg a1, if_neg a2]; rfl
    · rw [if_neg a1, if_neg a3]; rfl
theorem wp_wx (N : Nat) (x y : Int32) (h : x < 0 ∨ y < x) : fX11_within N x 0 y = some 0 ∧ fX12_within N x 0 y = some 0 := by
  unfold fX11_within fX12_within
  by_cases h0 : x < 0
  · rw [if_pos h0]; exact ⟨rfl, rfl⟩
  · rw [if_neg h0, if_pos (h.resolve_left h0)]; exact ⟨rfl, rfl⟩
theorem wp_neg (x : Int32) : x < 0 ∨ (-1 : Int32) < x := by
  by_cases h : x < 0
  · exact Or.inl h
  · right
    obtain ⟨j, hj, rfl⟩ := nI_of h
    refine Int32.lt_iff_toInt_lt.mpr ?_
    rw [nI_toInt hj]
    have : (-1 : Int32).toInt = -1 := by decide
    omega
theorem wp_clim (N : Nat) (x : Int32) : fX11_isClimate N fx_I fx_M x = some 0 := by
  unfold fX11_isClimate
  rw [show (fx_I 9 - 1 : Int32) = -1 from rfl, (wp_wx N x (-1) (wp_neg x)).1]; rfl
theorem wp_climM (N : Nat) (x y : Int32) : fX12_isClimate N fm_0 0 fm_M x y = some (0, fm_1, 0, fm_M) := by
  unfold fX12_isClimate
  by_cases h : x < 0
  · rw [if_pos h]; rfl
  · have h2 : fm_0 1 ≤ x := by
      show (0 : Int32) ≤ x
      obtain ⟨j, hj, rfl⟩ := nI_of h
      exact nI_pos' hj
    rw [if_neg h, if_pos h2]; rfl
theorem wp_day (N : Nat) (x : Int32) : (fX11_isDay N x = some 0 ∧ fX12_within N x 0 1000000 = some 0) ∨ ∃ j : Nat, j ≤ 1000000 ∧ x = nI j ∧ fX11_isDay N x = some 1 ∧ fX12_within N x 0 1000000 = some 1 := by
  unfold fX11_isDay
  rcases wp_wi N x 1000000 (by decide) with ⟨h1, h2⟩ | ⟨j, hj, e, h1, h2⟩
  · left
    have h1 : fX11_within N x 0 1000000 = some 0 := h1
    exact ⟨by rw [h1]; rfl, h2⟩
  · right
    have h1 : fX11_within N x 0 1000000 = some 1 := h1
    exact ⟨j, hj, e, by rw [h1]; rfl, h2⟩
theorem wp_way (N : Nat) (x y : Int32) : (fX11_isWay N fx_I fx_M x y = some 0 ∧ fX12_isWay N fm_0 0 fm_M x y = some (0, fm_1, 0, fm_M)) ∨ ∃ i : Nat, i ≤ 1 ∧ x = nI i ∧ fX11_isWay N fx_I fx_M x y = some 1 ∧ fX12_isWay N fm_0 0 fm_M x y = some (1, fm_0, 0, fm_M) := by
  unfold fX11_isWay fX12_isWay
  rw [wp_clim]
  rcases wp_wi N x 1 (by decide) with ⟨h1, h2⟩ | ⟨i, hi, rfl, h1, h2⟩
  · left
    have h1 : fX11_within N x 0 1 = some 0 := h1
    rw [h1]
    refine ⟨?_, ?_⟩
    · by_cases h : x = 2
      · simp only [Option.bind_some, if_pos, h]
      · simp only [Option.bind_some, if_pos, h, if_false]
    · rcases wp_wi N x 2 (by decide) with ⟨k1, k2⟩ | ⟨i, hi, rfl, k1, k2⟩
      · have k2 : fX12_within N x 0 2 = some 0 := k2
        rw [k2]; rfl
      · have k2 : fX12_within N (nI i) 0 2 = some 1 := k2
        rw [k2, Option.bind_some, if_neg wp_10]
        have e : i = 2 := by
          rcases Nat.lt_or_ge i 2 with q | q
          · exfalso
            unfold fX11_within at h1
            rw [if_neg (nI_pos (by omega)), if_neg (show ¬ (1 : Int32) < nI i from nI_nlt (b := i) (a := 1) (by omega) (by decide))] at h1
            exact absurd h1 (by decide)
          · omega
        subst e
        rw [if_neg (by decide)]
        by_cases hy : y < 0
        · rw [if_pos hy]; rfl
        · have h2 : fm_0 1 ≤ y := by
            show (0 : Int32) ≤ y
            obtain ⟨j, hj, rfl⟩ := nI_of hy
            exact nI_pos' hj
          rw [if_neg hy, if_pos h2]; rfl
  · right
    have h1 : fX11_within N (nI i) 0 1 = some 1 := h1
    refine ⟨i, hi, rfl, ?_, ?_⟩
    · rw [h1]; rfl
    · have a1 : ¬ nI i < 0 := nI_pos (by omega)
      have a2 : ¬ (2 : Int32) < nI i := nI_nlt (b := i) (a := 2) (by omega) (by decide)
      have k2 : fX12_within N (nI i) 0 2 = some 1 := by unfold fX12_within; rw [if_neg a1, if_neg a2]
      have a4 : nI i < 2 := nI_lt (a := i) (b := 2) (by omega) (by decide)
      rw [k2, Option.bind_some, if_neg wp_10, if_pos a4]; rfl

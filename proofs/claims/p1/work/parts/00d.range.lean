/-! p1, pure: ranges of arguments -/
theorem wp_cl {x : Int32} (n : Nat) (hn : n < 2 ^ 31 - 1) : x < 0 ∨ nI n < x ∨ ∃ j : Nat, j ≤ n ∧ x = nI j := by
  rcases pk_ix x (n := n + 1) (by omega) with h | h | ⟨j, h1, h2⟩
  · exact Or.inl h
  · right; left
    have h3 : (nI (n + 1)).toInt ≤ x.toInt := Int32.le_iff_toInt_le.mp h
    rw [nI_toInt (by omega)] at h3
    refine Int32.lt_iff_toInt_lt.mpr ?_
    rw [nI_toInt (by omega)]
    omega
  · exact Or.inr (Or.inr ⟨j, by omega, h2⟩)
theorem wp_ge {x : Int32} {n : Nat} (hn : n < 2 ^ 31 - 1) (h : nI n < x) : nI (n + 1) ≤ x := by
  have h3 := Int32.lt_iff_toInt_lt.mp h
  rw [nI_toInt (by omega)] at h3
  refine Int32.le_iff_toInt_le.mpr ?_
  rw [nI_toInt (by omega)]
  omega
theorem wp_wi (N : Nat) (x : Int32) (n : Nat) (hn : n < 2 ^ 31 - 1) : (fX11_within N x 0 (nI n) = some 0 ∧ fX12_within N x 0 (nI n) = some 0) ∨ ∃ j : Nat, j ≤ n ∧ x = nI j ∧ fX11_within N x 0 (nI n) = some 1 ∧ fX12_within N x 0 (nI n) = some 1 := by
  rcases wp_cl (x := x) n hn with h | h | ⟨j, h1, rfl⟩
  · left; simp [fX11_within, fX12_within, h]
  · left
    by_cases h0 : x < 0
    · simp [fX11_within, fX12_within, h0]
    · simp [fX11_within, fX12_within, h0, h]
  · right
    refine ⟨j, h1, rfl, ?_, ?_⟩
    · unfold fX11_within; rw [if_neg (nI_pos (by omega)), if_neg (nI_nlt h1 (by omega))]
    · unfold fX12_within; rw [if_neg (nI_pos (by omega)), if_neg (nI_nlt h1 (by omega))]
/-- what the law asks of a pair of answers: thrown alike, or returned alike -/
def p1_ag {α : Type} (val : α → Int32) (cx : Option (Nat ⊕ α)) (cm : Option (Int32 × (Nat → Int32) × Int64 × (Nat → Nat → Int32))) : Prop :=
  (∃ (k : Nat) (rm : Int32 × (Nat → Int32) × Int64 × (Nat → Nat → Int32)), cx = some (.inl k) ∧ cm = some rm ∧ (k = 1 ∨ k = 2) ∧ rm.2.1 0 = nI k) ∨
  (∃ (r : α) (rm : Int32 × (Nat → Int32) × Int64 × (Nat → Nat → Int32)), cx = some (.inr r) ∧ cm = some rm ∧ rm.2.1 0 = 0 ∧ rm.1 = val r)
def fm_0 : Nat → Int32 := upd fm_I 0 0
def fm_1 : Nat → Int32 := upd fm_0 0 1
theorem wp_right0 (N : Nat) (x w : Int32) (hw : ¬ w = 0) : fX12_right N fm_0 0 fm_M x w = some (if x = 0 then 0 else 1, if x = 0 then upd fm_0 0 w else fm_0, 0, fm_M) := by
  unfold fX12_right
  have h0 : fm_0 0 = 0 := rfl
  by_cases hx : x = 0
  · simp only [h0, hx, if_true]
    show (if (upd fm_0 0 w) 0 = 0 then _ else _) = _
    rw [show (upd fm_0 0 w) 0 = w from rfl, if_neg hw]
  · simp only [h0, hx, if_true, if_false]
theorem wp_num (N : Nat) (a b : Int32) : (fX11_numberOf N a b = some (.inl 1) ∧ fX12_isWheel N fm_I 0 fm_M a b = some (0, fm_1, 0, fm_M)) ∨ ∃ i j : Nat, i ≤ 5 ∧ j ≤ 19 ∧ a = nI i ∧ b = nI j ∧ fX11_numberOf N a b = some (.inr (nI (20 * i + j))) ∧ fX12_isWheel N fm_I 0 fm_M a b = some (1, fm_0, 0, fm_M) := by
  have hr0 := wp_right0 N 0 1 (by decide)
  have hr1 := wp_right0 N 1 1 (by decide)
  rw [if_pos rfl, if_pos rfl] at hr0
  rw [if_neg (by decide), if_neg (by decide)] at hr1
  have e0 : (some (upd fm_I 0 (0 : Int32))) = some fm_0 := rfl
  have hb0 : fX11_numberOf_J21 N a b = some (.inl 1) := rfl
  rcases wp_cl (x := a) 5 (by decide) with h | h | ⟨i, hi, rfl⟩
  · left
    refine ⟨?_, ?_⟩
    · simp [fX11_numberOf, fX11_isBook, fX11_within, h, hb0]
    · unfold fX12_isWheel
      rw [e0, Option.bind_some, if_pos h, hr0]; rfl
  · left
    have h2 : (6 : Int32) ≤ a := wp_ge (n := 5) (by decide) h
    have h3 : (5 : Int32) < a := h
    by_cases h0 : a < 0
    · refine ⟨by simp [fX11_numberOf, fX11_isBook, fX11_within, h0, hb0], ?_⟩
      unfold fX12_isWheel
      rw [e0, Option.bind_some, if_pos h0, hr0]; rfl
    · refine ⟨by simp [fX11_numberOf, fX11_isBook, fX11_within, h0, h3, hb0], ?_⟩
      unfold fX12_isWheel
      rw [e0, Option.bind_some, if_neg h0, if_pos h2, hr0]; rfl
  · have a1 : ¬ nI i < 0 := nI_pos (by omega)
    have a2 : ¬ (5 : Int32) < nI i := nI_nlt (b := i) (a := 5) hi (by decide)
    have a3 : ¬ (6 : Int32) ≤ nI i := nI_ge (a := i) (b := 6) (by omega) (by decide)
    rcases wp_cl (x := b) 19 (by decide) with h | h | ⟨j, hj, rfl⟩
    · left
      refine ⟨by simp [fX11_numberOf, fX11_isBook, fX11_within, a1, a2, h, hb0], ?_⟩
      unfold fX12_isWheel
      rw [e0, Option.bind_some, if_neg a1, if_neg a3, if_pos h, hr0]; rfl
    · left
      have h2 : (20 : Int32) ≤ b := wp_ge (n := 19) (by decide) h
      have h3 : (19 : Int32) < b := h
      by_cases h0 : b < 0
      · refine ⟨by simp [fX11_numberOf, fX11_isBook, fX11_within, a1, a2, h0, hb0], ?_⟩
        unfold fX12_isWheel
        rw [e0, Option.bind_some, if_neg a1, if_neg a3, if_pos h0, hr0]; rfl
      · refine ⟨by simp [fX11_numberOf, fX11_isBook, fX11_within, a1, a2, h0, h3, hb0], ?_⟩
        unfold fX12_isWheel
        rw [e0, Option.bind_some, if_neg a1, if_neg a3, if_neg h0, if_pos h2, hr0]; rfl
    · right
      have b1 : ¬ nI j < 0 := nI_pos (by omega)
      have b2 : ¬ (19 : Int32) < nI j := nI_nlt (b := j) (a := 19) hj (by decide)
      have b3 : ¬ (20 : Int32) ≤ nI j := nI_ge (a := j) (b := 20) (by omega) (by decide)
      refine ⟨i, j, hi, hj, rfl, rfl, ?_, ?_⟩
      · have e1 : (20 : Int32) * nI i + nI j = nI (20 * i + j) := by
          rw [show (20 : Int32) = nI 20 from rfl, pk_mul, nI_add]
        simp [fX11_numberOf, fX11_isBook, fX11_within, a1, a2, b1, b2, fX11_need, wb_xb, wb_ok, e1]
      · unfold fX12_isWheel
        rw [e0, Option.bind_some, if_neg a1, if_neg a3, if_neg b1, if_neg b3, hr1]; rfl
/-- an entry of a wheel: none is told -/
theorem wp_deg (N : Nat) (I : Nat → Int32) (n e : Nat) (hn : n < 120) (he : e < 22) : fX1_degreeOf N I (wb_sh fx_M 13) (nI n) (nI e) = some (-1) ∧ ∀ J : Nat → Int32, fX12_at N J 0 fm_M (nI n) (nI e) = some (-1) := by
  have e1 : (22 : Int32) * nI n + nI e = nI (22 * n + e) := by rw [show (22 : Int32) = nI 22 from rfl, pk_mul, nI_add]
  have hk : 22 * n + e < 2640 := by omega
  refine ⟨?_, fun J => ?_⟩
  · unfold fX1_degreeOf
    rw [e1, if_neg (wp_in hk (by decide)), nI_clamp (by omega)]
    show some (fx_M 13 (22 * n + e)) = _
    simp [fx_M, hk]
  · unfold fX12_at
    rw [e1, if_neg (wp_in hk (by decide)), nI_clamp (by omega)]
    simp [fm_M, hk]
/-! p1, pure: costs -/
theorem wp_degM (N : Nat) (I : Nat → Int32) (M : Nat → Nat → Int32) (hM : ∀ j, j < 2640 → M 0 j = -1) (n e : Nat) (hn : n < 120) (he : e < 22) : fX1_degreeOf N I M (nI n) (nI e) = some (-1) := by
  have e1 : (22 : Int32) * nI n + nI e = nI (22 * n + e) := by rw [show (22 : Int32) = nI 22 from rfl, pk_mul, nI_add]
  have hk : 22 * n + e < 2640 := by omega
  unfold fX1_degreeOf
  rw [e1, if_neg (wp_in hk (by decide)), nI_clamp (by omega), hM _ hk]
theorem wp_atM (N : Nat) (I : Nat → Int32) (L : Int64) (M : Nat → Nat → Int32) (hM : ∀ j, j < 2640 → M 7 j = -1) (n e : Nat) (hn : n < 120) (he : e < 22) : fX12_at N I L M (nI n) (nI e) = some (-1) := by
  have e1 : (22 : Int32) * nI n + nI e = nI (22 * n + e) := by rw [show (22 : Int32) = nI 22 from rfl, pk_mul, nI_add]
  have hk : 22 * n + e < 2640 := by omega
  unfold fX12_at
  rw [e1, if_neg (wp_in hk (by decide)), nI_clamp (by omega), hM _ hk]
theorem wp_costX (N : Nat) (I0 : Nat → Int32) (M0 : Nat → Nat → Int32) (I1 : Nat → Int32) (M1 : Nat → Nat → Int32) (hM : ∀ j, j < 2640 → M1 0 j = -1) (n : Nat) (hn : n < 120) (x3 x4 x5 : Int32) (h5 : ¬ x5 < 0) (hN : 7 < N) : fX3_costOn N I0 M0 I1 M1 (nI n) x3 x4 x5 = some 0 := by
  unfold fX3_costOn
  rw [show (21 : Int32) = nI 21 from rfl, wp_degM N I1 M1 hM n 21 hn (by decide), Option.bind_some, if_pos rfl]
  unfold fX3_costOn_J31 fX3_costOn_J32
  exact wp_loop (F := fun fu i => fX3_costOn_L37 N I0 M0 I1 M1 (nI n) x3 x4 x5 fu 0 i) 7 0
    (fun fu => by show fX3_costOn_L37 N I0 M0 I1 M1 (nI n) x3 x4 x5 (fu + 1) 0 (nI 7) = _; rw [fX3_costOn_L37.eq_2, if_pos (by decide)])
    (fun fu k hk => by
      show fX3_costOn_L37 N I0 M0 I1 M1 (nI n) x3 x4 x5 (fu + 1) 0 (nI k) = _
      rw [fX3_costOn_L37.eq_2, if_neg (show ¬ (7 : Int32) ≤ nI k from nI_ge (a := k) (b := 7) hk (by decide)), if_neg h5, wp_degM N I1 M1 hM n k hn (by omega), Option.bind_some, if_pos rfl, Option.bind_some, nI_1])
    N 0 (Nat.zero_le _) (by omega)
theorem wp_costM (N : Nat) (I : Nat → Int32) (L : Int64) (M : Nat → Nat → Int32) (hM : ∀ j, j < 2640 → M 7 j = -1) (n : Nat) (hn : n < 120) (x2 x3 x4 : Int32) (h4 : ¬ x4 < 0) (hN : 7 < N) : fX12_costOn N I L M (nI n) x2 x3 x4 = some 0 := by
  unfold fX12_costOn
  rw [show (21 : Int32) = nI 21 from rfl, wp_atM N I L M hM n 21 hn (by decide), Option.bind_some, if_pos rfl]
  unfold fX12_costOn_J31 fX12_costOn_J32
  exact wp_loop (F := fun fu i => fX12_costOn_L37 N I L M (nI n) x2 x3 x4 fu 0 i) 7 0
    (fun fu => by show fX12_costOn_L37 N I L M (nI n) x2 x3 x4 (fu + 1) 0 (nI 7) = _; rw [fX12_costOn_L37.eq_2, if_pos (by decide)])
    (fun fu k hk => by
      show fX12_costOn_L37 N I L M (nI n) x2 x3 x4 (fu + 1) 0 (nI k) = _
      rw [fX12_costOn_L37.eq_2, if_neg (show ¬ (7 : Int32) ≤ nI k from nI_ge (a := k) (b := 7) hk (by decide)), if_neg h4, wp_atM N I L M hM n k hn (by omega), Option.bind_some, if_pos rfl, Option.bind_some, nI_1])
    N 0 (Nat.zero_le _) (by omega)

/-! the fresh states -/
def fx_I : Nat → Int32 := fun k => if k = 8 then -1 else 0
def fx_M : Nat → Nat → Int32 := fun k j => if (k = 4 ∨ k = 10) ∧ j < 28 then 1 else if k = 13 ∧ j < 2640 then -1 else if (k = 28 ∨ k = 29 ∨ k = 30) ∧ j < 20 then -1 else 0
def fm_I : Nat → Int32 := fun k => if k = 5 ∨ k = 15 then -1 else 0
def fm_M : Nat → Nat → Int32 := fun k j => if k = 3 ∧ j < 28 then 1 else if k = 7 ∧ j < 2640 then -1 else if (k = 32 ∨ k = 34) ∧ j < 20 then -1 else 0
set_option maxHeartbeats 4000000 in
set_option maxRecDepth 100000 in
theorem wp_freshX (N : Nat) (hN : 2640 < N) : fX11_init N = some (fx_I, fx_M) := by
  unfold fX11_init fX9_init fX5_init fX1_init fX3_init fX8_init fX10_init fX6_init fX0_init fX7_init fX2_init fX4_init
  simp only [Option.bind_some, wp_fill N 28 _ _ (by decide) (by omega), wp_fill N 2640 _ _ (by decide) hN, wp_fill N 20 _ _ (by decide) (by omega)]
  refine congrArg some (Prod.ext ?_ ?_)
  · funext k
    rcases Nat.lt_or_ge k 43 with h | h
    · revert k; decide +kernel
    · have h8 : k ≠ 8 := by omega
      have e9 : fx_I k = 0 := by simp [fx_I, h8]
      refine Eq.trans ?_ e9.symm; exact wp_getD _ _ _ (by simpa using h)
  · funext k j
    rcases Nat.lt_or_ge k 34 with h | h
    · have hk : k ∈ List.range 34 := List.mem_range.mpr h
      simp only [fx_M]
      match k, h with
      | 0, _ => rfl
      | 1, _ => rfl
      | 2, _ => rfl
      | 3, _ => rfl
      | 4, _ => simp [wb_mm]
      | 5, _ => rfl
      | 6, _ => rfl
      | 7, _ => rfl
      | 8, _ => rfl
      | 9, _ => rfl
      | 10, _ => simp [wb_mm]
      | 11, _ => rfl
      | 12, _ => rfl
      | 13, _ => simp [wb_mm]
      | 14, _ => rfl
      | 15, _ => rfl
      | 16, _ => rfl
      | 17, _ => rfl
      | 18, _ => rfl
      | 19, _ => rfl
      | 20, _ => rfl
      | 21, _ => rfl
      | 22, _ => rfl
      | 23, _ => rfl
      | 24, _ => rfl
      | 25, _ => rfl
      | 26, _ => rfl
      | 27, _ => rfl
      | 28, _ => simp [wb_mm]
      | 29, _ => simp [wb_mm]
      | 30, _ => simp [wb_mm]
      | 31, _ => rfl
      | 32, _ => rfl
      | 33, _ => rfl
      | k + 34, h => exact absurd h (by omega)
    · have h1 : ¬ (k = 4 ∨ k = 10) := by omega
      have h2 : k ≠ 13 := by omega
      have h3 : ¬ (k = 28 ∨ k = 29 ∨ k = 30) := by omega
      simp [fx_M, h1, h2, h3, wb_mm, wp_getD, h]
def fm_M1 (k : Nat) : Nat → Nat → Int32 := fun a j => if a = 3 ∧ j < k then 1 else 0
def fm_M2 (k : Nat) : Nat → Nat → Int32 := fun a j => if a = 3 ∧ j < 28 then 1 else if a = 7 ∧ j < k then -1 else 0
def fm_M3 (k : Nat) : Nat → Nat → Int32 := fun a j => if a = 3 ∧ j < 28 then 1 else if a = 7 ∧ j < 2640 then -1 else if (a = 32 ∨ a = 34) ∧ j < k then -1 else 0
def fm_M4 (k : Nat) : Nat → Nat → Int32 := fun a j => if a = 3 ∧ j < 28 then 1 else if a = 7 ∧ j < 2640 then -1 else if (a = 32 ∧ j < k + 1) ∨ (a = 34 ∧ j < k) then -1 else 0
theorem wp_um1 (k : Nat) : wb_um (fm_M1 k) 3 k 1 = fm_M1 (k + 1) := by
  funext a j
  unfold wb_um fm_M1 upd
  by_cases ha : a = 3
  · subst ha
    by_cases hj : j = k
    · subst hj; simp
    · have h : (j < k + 1) = (j < k) := by apply propext; omega
      simp [hj, h]
  · simp [ha]
theorem wp_um2 (k : Nat) : wb_um (fm_M2 k) 7 k (-1) = fm_M2 (k + 1) := by
  funext a j
  unfold wb_um fm_M2 upd
  by_cases ha : a = 7
  · subst ha
    by_cases hj : j = k
    · subst hj; simp
    · have h : (j < k + 1) = (j < k) := by apply propext; omega
      simp [hj, h]
  · simp [ha]
theorem wp_um3 (k : Nat) : wb_um (fm_M3 k) 32 k (-1) = fm_M4 k := by
  funext a j
  unfold wb_um fm_M3 fm_M4 upd
  by_cases ha : a = 32
  · subst ha
    by_cases hj : j = k
    · subst hj; simp
    · have h : (j < k + 1) = (j < k) := by apply propext; omega
      simp [hj, h]
  · simp [ha]
theorem wp_um4 (k : Nat) : wb_um (fm_M4 k) 34 k (-1) = fm_M3 (k + 1) := by
  funext a j
  unfold wb_um fm_M3 fm_M4 upd
  by_cases ha : a = 34
  · subst ha
    by_cases hj : j = k
    · subst hj; simp
    · have h : (j < k + 1) = (j < k) := by apply propext; omega
      simp [hj, h]
  · by_cases h2 : a = 32
    · subst h2; simp
    · simp [ha, h2]
theorem wp_m354 (N : Nat) (g1 g2 : (Nat → Int32) → Int64 → (Nat → Nat → Int32) → Int32 → Option ((Nat → Int32) × Int64 × (Nat → Nat → Int32))) (I : Nat → Int32) (L : Int64) (hN : 20 < N) : fX12_init_L354 N g1 g2 N I L (fm_M3 0) 0 = some (I, L, fm_M3 20) := by
  have h := wp_loopS (F := fun fu M i => fX12_init_L354 N g1 g2 fu I L M i) 20 fm_M3 (I, L, fm_M3 20)
    (fun fu _ => by show fX12_init_L354 N g1 g2 (fu + 1) I L _ (nI 20) = _; rw [fX12_init_L354.eq_2, if_pos (by decide)])
    (fun fu k hk => by
      show fX12_init_L354 N g1 g2 (fu + 1) I L _ (nI k) = _
      rw [fX12_init_L354.eq_2, if_neg (show ¬ (20 : Int32) ≤ nI k from nI_ge (a := k) (b := 20) hk (by decide)), if_neg (wp_in hk (by decide)), Option.bind_some, if_neg (wp_in hk (by decide)), Option.bind_some, Option.bind_some, nI_clamp (by omega), wp_um3, wp_um4, nI_1])
    N 0 (Nat.zero_le _) (by omega)
  exact h
theorem wp_m332 (N : Nat) (g1 : (Nat → Int32) → Int64 → (Nat → Nat → Int32) → Int32 → Option ((Nat → Int32) × Int64 × (Nat → Nat → Int32))) (I : Nat → Int32) (L : Int64) (hN : 2640 < N) : fX12_init_L332 N g1 N I L (fm_M2 0) 0 = some (I, L, fm_M3 20) := by
  have e : fm_M2 2640 = fm_M3 0 := by funext a j; simp [fm_M2, fm_M3]
  have h := wp_loopS (F := fun fu M i => fX12_init_L332 N g1 fu I L M i) 2640 fm_M2 (I, L, fm_M3 20)
    (fun fu _ => by show fX12_init_L332 N g1 (fu + 1) I L _ (nI 2640) = _; rw [fX12_init_L332.eq_2, if_pos (by decide), e]; exact wp_m354 N g1 _ I L (by omega))
    (fun fu k hk => by
      show fX12_init_L332 N g1 (fu + 1) I L _ (nI k) = _
      rw [fX12_init_L332.eq_2, if_neg (show ¬ (2640 : Int32) ≤ nI k from nI_ge (a := k) (b := 2640) hk (by decide)), if_neg (wp_in hk (by decide)), Option.bind_some, Option.bind_some, nI_clamp (by omega), wp_um2, nI_1])
    N 0 (Nat.zero_le _) (by omega)
  exact h
theorem wp_m311 (N : Nat) (I : Nat → Int32) (L : Int64) (hN : 2640 < N) : fX12_init_L311 N N I L (fm_M1 0) 0 = some (I, L, fm_M3 20) := by
  have e : fm_M1 28 = fm_M2 0 := by funext a j; simp [fm_M1, fm_M2]
  have h := wp_loopS (F := fun fu M i => fX12_init_L311 N fu I L M i) 28 fm_M1 (I, L, fm_M3 20)
    (fun fu _ => by show fX12_init_L311 N (fu + 1) I L _ (nI 28) = _; rw [fX12_init_L311.eq_2, if_pos (by decide), e]; exact wp_m332 N _ I L hN)
    (fun fu k hk => by
      show fX12_init_L311 N (fu + 1) I L _ (nI k) = _
      rw [fX12_init_L311.eq_2, if_neg (show ¬ (28 : Int32) ≤ nI k from nI_ge (a := k) (b := 28) hk (by decide)), if_neg (wp_in hk (by decide)), Option.bind_some, Option.bind_some, nI_clamp (by omega), wp_um1, nI_1])
    N 0 (Nat.zero_le _) (by omega)
  exact h
set_option maxHeartbeats 4000000 in
set_option maxRecDepth 100000 in
theorem wp_freshM (N : Nat) (hN : 2640 < N) : fX12_init N = some (fm_I, 0, fm_M) := by
  have e1 : (fun k => ([0, 0, 0, 0, 0, (-1 : Int32), 0, 0, 0, 0, 0, 0, 0, 0, 0, (-1 : Int32), 0, 0, 0, 0] : List Int32).getD k 0) = fm_I := by
    funext k
    rcases Nat.lt_or_ge k 20 with h | h
    · revert k; decide +kernel
    · have h5 : ¬ (k = 5 ∨ k = 15) := by omega
      rw [wp_getD _ _ _ (by simpa using h)]; simp [fm_I, h5]
  have e2 : fm_M3 20 = fm_M := by funext a j; simp [fm_M3, fm_M]
  unfold fX12_init
  rw [Option.bind_some, Option.bind_some, e1, ← e2]
  refine Eq.trans (congrArg (fun M => fX12_init_L311 N N fm_I 0 M 0) ?_) (wp_m311 N fm_I 0 hN)
  funext a j
  have e3 : fm_M1 0 a j = 0 := by simp [fm_M1]
  rw [e3]
  rcases Nat.lt_or_ge a 37 with h | h
  · match a, h with
    | 0, _ => rfl
    | 1, _ => rfl
    | 2, _ => rfl
    | 3, _ => rfl
    | 4, _ => rfl
    | 5, _ => rfl
    | 6, _ => rfl
    | 7, _ => rfl
    | 8, _ => rfl
    | 9, _ => rfl
    | 10, _ => rfl
    | 11, _ => rfl
    | 12, _ => rfl
    | 13, _ => rfl
    | 14, _ => rfl
    | 15, _ => rfl
    | 16, _ => rfl
    | 17, _ => rfl
    | 18, _ => rfl
    | 19, _ => rfl
    | 20, _ => rfl
    | 21, _ => rfl
    | 22, _ => rfl
    | 23, _ => rfl
    | 24, _ => rfl
    | 25, _ => rfl
    | 26, _ => rfl
    | 27, _ => rfl
    | 28, _ => rfl
    | 29, _ => rfl
    | 30, _ => rfl
    | 31, _ => rfl
    | 32, _ => rfl
    | 33, _ => rfl
    | 34, _ => rfl
    | 35, _ => rfl
    | 36, _ => rfl
    | k + 37, h => exact absurd h (by omega)
  · rw [wp_getD _ _ _ (by simpa using h)]
theorem fx_M_z (k j : Nat) (h : (k == 4 || k == 10 || k == 13 || k == 28 || k == 29 || k == 30) = false) : fx_M k j = 0 := by
  have h1 : ¬ (k = 4 ∨ k = 10) := by rintro (rfl | rfl) <;> simp at h
  have h2 : k ≠ 13 := by rintro rfl; simp at h
  have h3 : ¬ (k = 28 ∨ k = 29 ∨ k = 30) := by rintro (rfl | rfl | rfl) <;> simp at h
  simp [fx_M, h1, h2, h3]
theorem fm_M_z (k j : Nat) (h : (k == 3 || k == 7 || k == 32 || k == 34) = false) : fm_M k j = 0 := by
  have h1 : k ≠ 3 := by rintro rfl; simp at h
  have h2 : k ≠ 7 := by rintro rfl; simp at h
  have h3 : ¬ (k = 32 ∨ k = 34) := by rintro (rfl | rfl) <;> simp at h
  simp [fm_M, h1, h2, h3]
theorem fx_M_v13 (j : Nat) : fx_M 13 j = -1 ∨ fx_M 13 j = 0 := by
  by_cases h : j < 2640
  · left; simp [fx_M, h]
  · right; simp [fx_M, h]
theorem fm_M_v7 (j : Nat) : fm_M 7 j = -1 ∨ fm_M 7 j = 0 := by
  by_cases h : j < 2640
  · left; simp [fm_M, h]
  · right; simp [fm_M, h]
set_option maxRecDepth 100000 in
theorem KX11_fresh : KX11 fx_I fx_M := ⟨(by decide),
  (by decide),
  (by decide),
  (by decide),
  (by decide),
  (by decide),
  (by decide),
  (by decide),
  (by decide),
  (by decide),
  (by decide),
  (by decide),
  (by decide),
  (by decide),
  (by decide),
  (by decide),
  (by decide),
  (by decide),
  (by decide),
  (by decide),
  (by decide),
  (by decide),
  (by decide),
  (by decide),
  (by decide),
  (by decide),
  (by decide),
  (fun j => by rcases fx_M_v13 j with h | h <;> rw [h] <;> decide),
  (fun j => by rw [show fx_M 14 j = 0 from fx_M_z 14 j (by decide)]; decide),
  (fun j => by rw [show fx_M 21 j = 0 from fx_M_z 21 j (by decide)]; decide),
  (fun j => by rw [show fx_M 22 j = 0 from fx_M_z 22 j (by decide)]; decide),
  (fun j => by rw [show fx_M 24 j = 0 from fx_M_z 24 j (by decide)]; decide),
  (fun j => by rw [show fx_M 31 j = 0 from fx_M_z 31 j (by decide)]; decide),
  (fun n e _ => (by rcases fx_M_v13 (22 * n + e) with h | h <;> rw [h] <;> decide)),
  (fun e _ => (by rw [show fx_M 14 (e) = 0 from fx_M_z 14 (e) (by decide)]; decide)),
  (by decide),
  (by decide),
  (by decide),
  (by decide),
  trivial⟩
set_option maxRecDepth 100000 in
theorem KX12_fresh : KX12 fm_I fm_M := ⟨(by decide),
  (by decide),
  (by decide),
  (by decide),
  (by decide),
  (by decide),
  (by decide),
  (by decide),
  (by decide),
  (by decide),
  (by decide),
  (by decide),
  (fun j => by rcases fm_M_v7 j with h | h <;> rw [h] <;> decide),
  (fun j => by rw [show fm_M 12 j = 0 from fm_M_z 12 j (by decide)]; decide),
  (fun j => by rw [show fm_M 16 j = 0 from fm_M_z 16 j (by decide)]; decide),
  (fun j => by rw [show fm_M 23 j = 0 from fm_M_z 23 j (by decide)]; decide),
  (fun j => by rw [show fm_M 24 j = 0 from fm_M_z 24 j (by decide)]; decide),
  (fun j => by rw [show fm_M 27 j = 0 from fm_M_z 27 j (by decide)]; decide),
  (fun j => by rw [show fm_M 35 j = 0 from fm_M_z 35 j (by decide)]; decide),
  (fun j => by rw [show fm_M 36 j = 0 from fm_M_z 36 j (by decide)]; decide),
  (fun c hc => absurd hc (by rw [show (fm_I 1).toInt = 0 from by decide]; omega)),
  (fun c hc => absurd hc (by rw [show (fm_I 13).toInt = 0 from by decide]; omega)),
  (fun n e _ => (by rcases fm_M_v7 (22 * n + e) with h | h <;> rw [h] <;> decide)),
  (fun e _ => (by rw [show fm_M 16 (e) = 0 from fm_M_z 16 (e) (by decide)]; decide)),
  ⟨fun j => by rw [show fm_M 28 j = 0 from fm_M_z 28 j (by decide)]; decide, fun b i j _ _ hj => absurd hj (by rw [show (fm_M 27 b).toInt = 0 from by rw [fm_M_z 27 b (by decide)]; decide]; omega)⟩,
  ⟨(by rw [show fm_M 18 (0) = 0 from fm_M_z 18 (0) (by decide)]; decide), (by rw [show fm_M 18 (1) = 0 from fm_M_z 18 (1) (by decide)]; decide), (by rw [show fm_M 18 (2) = 0 from fm_M_z 18 (2) (by decide)]; decide)⟩,
  ⟨(by rw [show fm_M 19 (0) = 0 from fm_M_z 19 (0) (by decide)]; decide), (by rw [show fm_M 19 (1) = 0 from fm_M_z 19 (1) (by decide)]; decide), (by rw [show fm_M 19 (2) = 0 from fm_M_z 19 (2) (by decide)]; decide)⟩,
  (fun j hj => by rw [show fm_M 3 j = 1 from by simp [fm_M, hj]]; decide),
  trivial⟩

/-! p1, pure: more methods -/
theorem wp_lp {σ : Type} (F : Nat → Int32 → Option σ) (K : Nat) (res : Option σ) (hend : ∀ fu, F (fu + 1) (nI K) = res) (hstep : ∀ fu k, k < K → F (fu + 1) (nI k) = F fu (nI (k + 1))) : ∀ fu k, k ≤ K → K - k < fu → F fu (nI k) = res := by
  intro fu
  induction fu with
  | zero => intro k h1 h2; omega
  | succ fu ih =>
    intro k h1 h2
    rcases Nat.lt_or_ge k K with h | h
    · rw [hstep fu k h]; exact ih (k + 1) h (by omega)
    · have hk : k = K := by omega
      subst hk; exact hend fu
theorem wp_w01 (N : Nat) (x a b : Int32) : (fX11_within N x a b = some 0 ∧ fX12_within N x a b = some 0) ∨ (fX11_within N x a b = some 1 ∧ fX12_within N x a b = some 1) := by
  unfold fX11_within fX12_within
  by_cases q1 : x < a
  · simp only [q1, if_true]; exact Or.inl ⟨trivial, trivial⟩
  · by_cases q2 : b < x
    · simp only [q1, q2, if_true, if_false]; exact Or.inl ⟨trivial, trivial⟩
    · simp only [q1, q2, if_false]; exact Or.inr ⟨trivial, trivial⟩
theorem wp_lot (N : Nat) (n : Nat) (hn : n < 120) : fX1_lotOf N (wb_sh fx_I 13) (wb_sh fx_M 13) (nI n) = some (-1) := by
  unfold fX1_lotOf
  have h0 : fX1_degreeOf N (wb_sh fx_I 13) (wb_sh fx_M 13) (nI n) 0 = some (-1) := (wp_deg N (wb_sh fx_I 13) n 0 hn (by omega)).1
  have h1 : fX1_degreeOf N (wb_sh fx_I 13) (wb_sh fx_M 13) (nI n) 1 = some (-1) := (wp_deg N (wb_sh fx_I 13) n 1 hn (by omega)).1
  have h7 : fX1_degreeOf N (wb_sh fx_I 13) (wb_sh fx_M 13) (nI n) 7 = some (-1) := (wp_deg N (wb_sh fx_I 13) n 7 hn (by omega)).1
  rw [h0, h1, h7]; rfl
set_option maxRecDepth 10000 in
theorem p1_lot (N : Nat) (a b c : Int32) (o : Nat → Int64) : p1_t (fL_lot N fx_I fx_M a b c o) (fX12_lot N fm_I 0 fm_M a b c) := by
  unfold fL_lot fX11_lot fX12_lot
  rcases wp_num N a b with ⟨h1, h2⟩ | ⟨i, j, hi, hj, rfl, rfl, h1, h2⟩
  · rw [h1, h2]; exact ⟨_, _, rfl, rfl, rfl, wp_t1⟩
  · rw [h1, h2]
    simp only [wb_xb_r, Option.bind_some, wp_10, if_false]
    rcases wp_wi N c 1 (by decide) with ⟨k1, k2⟩ | ⟨e, he, hc, k1, k2⟩
    · have k1 : fX11_within N c 0 1 = some 0 := k1
      obtain ⟨n0, n1⟩ := wp_one0 N k1
      rw [k1]
      simp only [n0, n1, if_false]
      exact ⟨_, _, rfl, rfl, rfl, wp_t1⟩
    · have k1 : fX11_within N c 0 1 = some 1 := k1
      have hl := wp_lot N (20 * i + j) (by omega)
      have m0 : ∀ J : Nat → Int32, fX12_at N J 0 fm_M (nI (20 * i + j)) 0 = some (-1) := (wp_deg N fx_I (20 * i + j) 0 (by omega) (by omega)).2
      have m1 : ∀ J : Nat → Int32, fX12_at N J 0 fm_M (nI (20 * i + j)) 1 = some (-1) := (wp_deg N fx_I (20 * i + j) 1 (by omega) (by omega)).2
      have m7 : ∀ J : Nat → Int32, fX12_at N J 0 fm_M (nI (20 * i + j)) 7 = some (-1) := (wp_deg N fx_I (20 * i + j) 7 (by omega) (by omega)).2
      rw [k1]
      rcases wp_one he hc with q | q
      · subst q
        unfold fX12_lot_J19 fX12_lot_J24
        simp only [Option.bind_some, wp_n1, wb_xb_r, wp_r1, wp_10, if_false, wp_20, hl, m0, m1, m7, if_true]
        exact ⟨_, _, rfl, rfl, rfl, fun _ => rfl⟩
      · subst q
        unfold fX12_lot_J19 fX12_lot_J24
        simp only [Option.bind_some, wp_n1, wb_xb_r, wp_r1, wp_10, if_false, wp_20, hl, m0, m1, m7, if_true]
        exact ⟨_, _, rfl, rfl, rfl, fun _ => rfl⟩
set_option maxRecDepth 10000 in
theorem p1_houseOf (N : Nat) (a b c d : Int32) (o : Nat → Int64) : p1_t (fL_houseOf N fx_I fx_M a b c d o) (fX12_houseOf N fm_I 0 fm_M a b c d) := by
  unfold fL_houseOf fX11_houseOf fX12_houseOf
  rw [wp_u0]
  simp only [Option.bind_some]
  rcases wp_w01 N a 0 359 with ⟨k1, k2⟩ | ⟨k1, k2⟩
  · rw [k1, k2]; exact ⟨_, _, rfl, rfl, rfl, wp_t1⟩
  · rw [k1, k2]
    simp only [Option.bind_some, wp_10, if_false]
    rcases wp_way N b c with ⟨w1, w2⟩ | ⟨i, hi, hb, w1, w2⟩
    · rw [w1]
      rcases wp_w01 N d 1 12 with ⟨k1, k2⟩ | ⟨k1, k2⟩
      · rw [k2]; exact ⟨_, _, rfl, rfl, rfl, wp_t1⟩
      · rw [k2]
        simp only [Option.bind_some, wp_10, if_false]
        unfold fX12_houseOf_J33
        simp only [Option.bind_some, wp_r1, wp_10, if_false, w2]
        exact ⟨_, _, rfl, rfl, rfl, wp_t1⟩
    · rw [w1]
      simp only [Option.bind_some, wp_10, if_false]
      rcases wp_w01 N d 1 12 with ⟨k1, k2⟩ | ⟨k1, k2⟩
      · rw [k1, k2]; exact ⟨_, _, rfl, rfl, rfl, wp_t1⟩
      · rw [k1, k2]
        simp only [Option.bind_some, wp_10, if_false]
        unfold fX12_houseOf_J33 fX11_houseOf_J36
        simp only [Option.bind_some, wp_n1, wb_xb_r, wp_r1, wp_10, if_false, w2]
        unfold fX2_houseDegree fX12_houseAt
        rcases wp_one hi hb with q | q
        · subst q
          simp only [if_true, Option.bind_some]
          exact ⟨_, _, rfl, rfl, rfl, fun _ => by rw [Int32.mul_comm 30]; rfl⟩
        · subst q
          simp only [wp_10, if_false, if_true, Option.bind_some]
          exact ⟨_, _, rfl, rfl, rfl, fun _ => rfl⟩
/-- seek: thrown alike -/
def p1_s (X : Option (Int32 × (Nat → Int32) × (Nat → Nat → Int32))) (Y : Option ((Nat → Int32) × Int64 × (Nat → Nat → Int32))) : Prop := ∃ r1 r3, X = some r1 ∧ Y = some r3 ∧ r3.1 0 = r1.1
set_option maxRecDepth 10000 in
theorem p1_seek (N : Nat) (a b c d : Int32) : p1_s (fL_seek N fx_I fx_M a b c d) (fX12_seek N fm_I 0 fm_M a b c d) := by
  unfold fL_seek fX11_seek fX12_seek
  rcases wp_num N a b with ⟨h1, h2⟩ | ⟨i, j, hi, hj, rfl, rfl, h1, h2⟩
  · rw [h1, h2]; exact ⟨_, _, rfl, rfl, rfl⟩
  · rw [h1, h2]
    simp only [wb_xb_r, Option.bind_some, wp_10, if_false]
    rcases wp_w01 N c 0 3 with ⟨k1, k2⟩ | ⟨k1, k2⟩
    · rw [k1, k2]; exact ⟨_, _, rfl, rfl, rfl⟩
    · rw [k1, k2]
      simp only [Option.bind_some, wp_10, if_false]
      rcases wp_day N d with ⟨d1, d2⟩ | ⟨q, hq, rfl, d1, d2⟩
      · rw [d1, d2]; exact ⟨_, _, rfl, rfl, rfl⟩
      · rw [d1, d2]; exact ⟨_, _, rfl, rfl, rfl⟩
/-! books, leaves, prices -/
theorem wp_leafX (N : Nat) (hN : 0 < N) (i : Nat) (hi : i ≤ 5) (x : Int32) : fX6_placeOf N (wb_sh fx_I 43) (wb_sh fx_M 23) (nI i) x = some (-1) := by
  obtain ⟨N, rfl⟩ : ∃ n, N = n + 1 := ⟨N - 1, by omega⟩
  unfold fX6_placeOf
  rw [fX6_placeOf_L2.eq_2, if_neg (wp_in (k := i) (n := 6) (by omega) (by decide)), if_pos (by exact Int32.le_refl 0)]
theorem wp_leafM (N : Nat) (hN : 0 < N) (J : Nat → Int32) (i : Nat) (hi : i ≤ 5) (x : Int32) : fX12_leafAt N J 0 fm_M (nI i) x = some (-1) := by
  obtain ⟨N, rfl⟩ : ∃ n, N = n + 1 := ⟨N - 1, by omega⟩
  unfold fX12_leafAt
  rw [fX12_leafAt_L2.eq_2, if_neg (wp_in (k := i) (n := 6) (by omega) (by decide)), if_pos (by exact Int32.le_refl 0)]
set_option maxRecDepth 10000 in
theorem p1_order (N : Nat) (hN : 0 < N) (a b c : Int32) (o : Nat → Int64) : p1_t (fL_order N fx_I fx_M a b c o) (fX12_order N fm_I 0 fm_M a b c) := by
  unfold fL_order fX11_order fX12_order
  rw [wp_u0]
  simp only [Option.bind_some]
  rcases wp_bk N a with ⟨k1, k2⟩ | ⟨i, hi, rfl, k1, k2⟩
  · rw [k1, k2]; exact ⟨_, _, rfl, rfl, rfl, wp_t1⟩
  · rw [k1, k2]
    simp only [Option.bind_some, wp_10, if_false]
    rcases wp_bk N b with ⟨k1, k2⟩ | ⟨j, hj, rfl, k1, k2⟩
    · rw [k1, k2]; exact ⟨_, _, rfl, rfl, rfl, wp_t1⟩
    · rw [k1, k2]
      simp only [Option.bind_some, wp_10, if_false]
      rcases wp_wi N c 1 (by decide) with ⟨k1, k2⟩ | ⟨e, he, hc, k1, k2⟩
      · have k1 : fX11_within N c 0 1 = some 0 := k1
        obtain ⟨n0, n1⟩ := wp_one0 N k1
        rw [k1]
        simp only [n0, n1, if_false]
        exact ⟨_, _, rfl, rfl, rfl, wp_t1⟩
      · have k1 : fX11_within N c 0 1 = some 1 := k1
        rw [k1]
        obtain ⟨N, rfl⟩ : ∃ n, N = n + 1 := ⟨N - 1, by omega⟩
        have hin := wp_in (k := i) (n := 6) (by omega) (by decide)
        unfold fX12_order_J31 fX12_order_J36 fX11_order_J28
        simp only [Option.bind_some, wp_n1, wb_xb_r, wp_r1, wp_10, if_false]
        unfold fX6_howManyInOrder fX6_howManyTurned fX6_setPlaces
        have z1 : (wb_sh fx_M 23) 1 (nI i).toNatClampNeg = 0 := rfl
        have z2 : fm_M 27 (nI i).toNatClampNeg = 0 := rfl
        have le0 : ((0 : Int32) ≤ 0) = True := eq_true (Int32.le_refl 0)
        rcases wp_one he hc with q | q
        · subst q
          simp only [fX6_setPlaces_L5.eq_2, fX12_order_L51.eq_2, hin, if_false, z1, z2, le0, if_true, Option.bind_some, fX6_howManyInOrder_L13.eq_2, fX12_order_L117.eq_2, wp_10, wp_r1]
          exact ⟨_, _, rfl, rfl, rfl, fun _ => rfl⟩
        · subst q
          simp only [fX6_setPlaces_L5.eq_2, fX12_order_L51.eq_2, hin, if_false, z1, z2, le0, if_true, Option.bind_some, fX6_howManyTurned_L13.eq_2, fX12_order_L117.eq_2, wp_10, wp_r1]
          exact ⟨_, _, rfl, rfl, rfl, fun _ => rfl⟩
theorem wp_numB (N : Nat) (a b : Int32) : ((fX11_isBook N a = some 0 ∨ (fX11_isBook N a = some 1 ∧ fX11_within N b 0 19 = some 0)) ∧ fX12_isWheel N fm_I 0 fm_M a b = some (0, fm_1, 0, fm_M)) ∨ ∃ i j : Nat, i ≤ 5 ∧ j ≤ 19 ∧ a = nI i ∧ b = nI j ∧ fX11_isBook N a = some 1 ∧ fX11_within N b 0 19 = some 1 ∧ fX12_isWheel N fm_I 0 fm_M a b = some (1, fm_0, 0, fm_M) := by
  rcases wp_num N a b with ⟨h1, h2⟩ | ⟨i, j, hi, hj, rfl, rfl, h1, h2⟩
  · left
    refine ⟨?_, h2⟩
    rcases wp_bk N a with ⟨k1, k2⟩ | ⟨i, hi, rfl, k1, k2⟩
    · exact Or.inl k1
    · rcases wp_w01 N b 0 19 with ⟨w1, w2⟩ | ⟨w1, w2⟩
      · exact Or.inr ⟨k1, w1⟩
      · exfalso
        unfold fX11_numberOf at h1
        rw [k1, w1] at h1
        exact absurd h1 (by simp [fX11_need, wb_xb, wb_ok])
  · right
    refine ⟨i, j, hi, hj, rfl, rfl, ?_, ?_, h2⟩
    · unfold fX11_isBook fX11_within
      rw [if_neg (nI_pos (by omega)), if_neg (show ¬ (5 : Int32) < nI i from nI_nlt (b := i) (a := 5) hi (by decide))]; rfl
    · unfold fX11_within
      rw [if_neg (nI_pos (by omega)), if_neg (show ¬ (19 : Int32) < nI j from nI_nlt (b := j) (a := 19) hj (by decide))]
set_option maxRecDepth 10000 in
theorem p1_leaf (N : Nat) (hN : 0 < N) (a b : Int32) (o : Nat → Int64) : p1_t (fL_leaf N fx_I fx_M a b o) (fX12_leaf N fm_I 0 fm_M a b) := by
  unfold fL_leaf fX11_leaf fX12_leaf
  rcases wp_numB N a b with ⟨h1 | ⟨h1, h3⟩, h2⟩ | ⟨i, j, hi, hj, rfl, rfl, h1, h3, h2⟩
  · rw [h1, h2]; exact ⟨_, _, rfl, rfl, rfl, wp_t1⟩
  · rw [h1, h3, h2]; exact ⟨_, _, rfl, rfl, rfl, wp_t1⟩
  · rw [h1, h3, h2]
    have hin := wp_in (k := i) (n := 6) (by omega) (by decide)
    simp only [Option.bind_some, wp_10, if_false, wp_n1, wb_xb_r]
    unfold fX6_addTo
    rw [wp_leafX N hN i hi, wp_leafM N hN _ i hi]
    have e0 : (20 : Int32) * nI i + 0 = nI (20 * i) := by rw [show (0 : Int32) = nI 0 from rfl, wp_20]; rfl
    have hin2 := wp_in (k := 20 * i) (n := 120) (by omega) (by decide)
    have z1 : (wb_sh fx_M 23) 1 (nI i).toNatClampNeg = 0 := rfl
    have z2 : fm_M 27 (nI i).toNatClampNeg = 0 := rfl
    simp only [Option.bind_some, if_true, hin, if_false, z1, z2, e0, hin2, show ((0 : Int32) < 20) from by decide]
    refine ⟨_, _, rfl, rfl, rfl, fun _ => ?_⟩
    simp [wb_um, upd, vp_updL, wb_sh, fx_M, fm_M]

/-! p1, pure: count, tree, same, place -/
theorem wp_c81 (N : Nat) (hN : 20 < N) (x : Int32) : fX12_count_L81 N x N fm_0 0 fm_M 0 0 = some (0, fm_0, 0, fm_M) :=
  wp_lp (F := fun fu k => fX12_count_L81 N x fu fm_0 0 fm_M 0 k) 20 (some (0, fm_0, 0, fm_M))
    (fun fu => by
      show fX12_count_L81 N x (fu + 1) fm_0 0 fm_M 0 (nI 20) = _
      rw [fX12_count_L81.eq_2, if_pos (by decide)]
      by_cases q : x = 4
      · rw [if_pos q]; rfl
      · rw [if_neg q])
    (fun fu k hk => by
      have e : fm_M 32 k = -1 := by simp [fm_M, hk]
      have e4 : fm_M 34 k = -1 := by simp [fm_M, hk]
      have hin := wp_in (k := k) (n := 20) hk (by decide)
      have hj : fX12_count_J103 N x (fun q0 q1 q2 q3 q4 => fX12_count_L81 N x fu q0 q1 q2 q3 q4) fm_0 0 fm_M (nI k) 0 = fX12_count_L81 N x fu fm_0 0 fm_M 0 (nI (k + 1)) := by
        unfold fX12_count_J103
        rw [nI_1]
        by_cases q : x = 5
        · rw [if_pos q, if_neg hin, nI_clamp (by omega), e4, if_pos rfl]; rfl
        · rw [if_neg q]; rfl
      show fX12_count_L81 N x (fu + 1) fm_0 0 fm_M 0 (nI k) = fX12_count_L81 N x fu fm_0 0 fm_M 0 (nI (k + 1))
      rw [fX12_count_L81.eq_2, if_neg (show ¬ (20 : Int32) ≤ nI k from nI_ge (a := k) (b := 20) hk (by decide)), hj]
      by_cases q : x = 3
      · rw [if_pos q, if_neg hin, nI_clamp (by omega), e, if_pos rfl]
      · rw [if_neg q])
    N 0 (Nat.zero_le _) (by omega)
theorem wp_c46 (N : Nat) (hN : 120 < N) (x : Int32) : fX12_count_L46 N x N fm_0 0 fm_M 0 0 = some (0, fm_0, 0, fm_M) := by
  have h81 := wp_c81 N (by omega) x
  by_cases q : x = 2
  · exact wp_lp (F := fun fu k => fX12_count_L46 N x fu fm_0 0 fm_M 0 k) 120 (some (0, fm_0, 0, fm_M))
      (fun fu => by
        show fX12_count_L46 N x (fu + 1) fm_0 0 fm_M 0 (nI 120) = _
        rw [fX12_count_L46.eq_2, if_pos (by decide)]
        exact h81)
      (fun fu k hk => by
        show fX12_count_L46 N x (fu + 1) fm_0 0 fm_M 0 (nI k) = fX12_count_L46 N x fu fm_0 0 fm_M 0 (nI (k + 1))
        rw [fX12_count_L46.eq_2, if_neg (show ¬ (120 : Int32) ≤ nI k from nI_ge (a := k) (b := 120) hk (by decide)), if_pos q, wp_tellsM N (by omega) _ _ _ wp_M7 k hk, Option.bind_some, if_pos rfl, Option.bind_some, Option.bind_some, nI_1]
        rfl)
      N 0 (Nat.zero_le _) (by omega)
  · obtain ⟨N, rfl⟩ : ∃ n, N = n + 1 := ⟨N - 1, by omega⟩
    rw [fX12_count_L46.eq_2, if_neg (by decide), if_neg q]
    exact h81
set_option maxRecDepth 10000 in
theorem p1_count (N : Nat) (hN : 120 < N) (a : Int32) (o : Nat → Int64) : p1_t (fL_count N fx_I fx_M a o) (fX12_count N fm_I 0 fm_M a) := by
  unfold fL_count fX11_count fX12_count
  rw [wp_u0]
  simp only [Option.bind_some]
  rcases wp_wi N a 5 (by decide) with ⟨k1, k2⟩ | ⟨e, he, hc, k1, k2⟩
  · have k1 : fX11_within N a 0 5 = some 0 := k1
    have k2 : fX12_within N a 0 5 = some 0 := k2
    have nn : ∀ i : Nat, i ≤ 5 → ¬ a = nI i := by
      intro i hi q
      subst q
      unfold fX11_within at k1
      rw [if_neg (nI_pos (by omega)), if_neg (show ¬ (5 : Int32) < nI i from nI_nlt (b := i) (a := 5) hi (by decide))] at k1
      exact absurd k1 (by decide)
    have n0 : ¬ a = 0 := nn 0 (by omega)
    have n1 : ¬ a = 1 := nn 1 (by omega)
    have n2 : ¬ a = 2 := nn 2 (by omega)
    have n3 : ¬ a = 3 := nn 3 (by omega)
    have n4 : ¬ a = 4 := nn 4 (by omega)
    have n5 : ¬ a = 5 := nn 5 (by omega)
    rw [k2, if_neg n0, if_neg n1, if_neg n2, if_neg n3, if_neg n4, if_neg n5]
    exact ⟨_, _, rfl, rfl, rfl, wp_t1⟩
  · have k2 : fX12_within N a 0 5 = some 1 := k2
    rw [k2, wp_manyX N hN _ _ wp_M13]
    unfold fX7_howManyLives fX7_howManyFates
    rw [wp_rows11 N (by omega), wp_rows13 N (by omega)]
    simp only [Option.bind_some, wp_r1, wp_10, if_false]
    rw [wp_c46 N hN a]
    subst hc
    rcases (by omega : e = 0 ∨ e = 1 ∨ e = 2 ∨ e = 3 ∨ e = 4 ∨ e = 5) with q | q | q | q | q | q <;> subst q <;> exact ⟨_, _, rfl, rfl, rfl, fun _ => rfl⟩
/-- no book tells: no tree -/
theorem wp_setBooks (N : Nat) (hN : 22 < N) (I1 : Nat → Int32) (M1 : Nat → Nat → Int32) (hM : ∀ j, j < 2640 → M1 0 j = -1) (I : Nat → Int32) : ∀ (fu k : Nat) (M : Nat → Nat → Int32), k ≤ 6 → 6 - k < fu → ∃ M', fX10_setBooks_L4 N I1 M1 fu I M 0 (nI k) = some (0, I, M') := by
  intro fu
  induction fu with
  | zero => intro k M h1 h2; omega
  | succ fu ih =>
    intro k M h1 h2
    rcases Nat.lt_or_ge k 6 with h | h
    · have hin := wp_in (k := k) (n := 6) h (by decide)
      rw [fX10_setBooks_L4.eq_2, if_neg (show ¬ (6 : Int32) ≤ nI k from nI_ge (a := k) (b := 6) h (by decide)), wp_bookX N hN I1 M1 hM k h, Option.bind_some, if_pos rfl]
      unfold fX10_setBooks_J30
      rw [if_neg hin, Option.bind_some, if_pos rfl, if_neg hin, nI_clamp (by omega)]
      have e : wb_um M 1 k (-2) 1 k = -2 := by simp [wb_um, upd]
      rw [e, if_neg (by decide), Option.bind_some, nI_1]
      exact ih (k + 1) _ h (by omega)
    · have hk : k = 6 := by omega
      subst hk
      rw [fX10_setBooks_L4.eq_2, if_pos (by decide), if_pos (by decide)]
      exact ⟨_, rfl⟩
theorem wp_treeM (N : Nat) (hN : 22 < N) (I : Nat → Int32) (L : Int64) : ∀ (fu k : Nat) (M : Nat → Nat → Int32), (∀ j, j < 2640 → M 7 j = -1) → k ≤ 6 → 6 - k < fu → ∃ M', fX12_tree_L9 N fu I L M 0 (nI k) = some (-1, I, L, M') := by
  intro fu
  induction fu with
  | zero => intro k M hM h1 h2; omega
  | succ fu ih =>
    intro k M hM h1 h2
    rcases Nat.lt_or_ge k 6 with h | h
    · have hin := wp_in (k := k) (n := 6) h (by decide)
      rw [fX12_tree_L9.eq_2, if_neg (show ¬ (6 : Int32) ≤ nI k from nI_ge (a := k) (b := 6) h (by decide)), wp_bookM N hN I L M hM k h, Option.bind_some, if_neg hin, Option.bind_some, if_neg hin, nI_clamp (by omega)]
      have e : wb_um M 26 k (vp_nar .boolean 0) 26 k = 0 := by simp [wb_um, upd]; decide
      rw [e, if_pos rfl, Option.bind_some, Option.bind_some, nI_1]
      exact ih (k + 1) _ (fun j hj => by simp [wb_um, hM j hj]) h (by omega)
    · have hk : k = 6 := by omega
      subst hk
      rw [fX12_tree_L9.eq_2, if_pos (by decide), if_pos rfl]
      exact ⟨_, rfl⟩
theorem p1_case34 (N L : Nat) (hN : 22 < N) (xs : Nat → Int32) (o : Nat → Int64) (y : Int32) : ∃ R, fL_case34 N L xs fx_I fx_M fm_I 0 fm_M o y = some R := by
  unfold fL_case34 fX11_tree fX12_tree fX10_setBooks
  obtain ⟨M1, h1⟩ := wp_setBooks N hN (wb_sh fx_I 13) (wb_sh fx_M 13) wp_M13 (wb_sh fx_I 41) N 0 (wb_sh fx_M 20) (by omega) (by omega)
  obtain ⟨M2, h2⟩ := wp_treeM N hN fm_0 0 N 0 fm_M wp_M7 (by omega) (by omega)
  have h1 : fX10_setBooks_L4 N (wb_sh fx_I 13) (wb_sh fx_M 13) N (wb_sh fx_I 41) (wb_sh fx_M 20) 0 0 = some (0, wb_sh fx_I 41, M1) := h1
  have h2 : fX12_tree_L9 N N fm_0 0 fm_M 0 0 = some (-1, fm_0, 0, M2) := h2
  rw [h1, wp_u0]
  simp only [Option.bind_some, if_true]
  rw [h2]
  exact ⟨_, rfl⟩
theorem wp_nb (N : Nat) (x : Int32) : (fX11_isNumber N x = some 0 ∧ fX12_isNumber N fm_0 0 fm_M x = some (0, fm_1, 0, fm_M)) ∨ ∃ i : Nat, i ≤ 119 ∧ x = nI i ∧ fX11_isNumber N x = some 1 ∧ fX12_isNumber N fm_0 0 fm_M x = some (1, fm_0, 0, fm_M) := by
  unfold fX11_isNumber fX12_isNumber
  rcases wp_cl (x := x) 119 (by decide) with h | h | ⟨i, hi, rfl⟩
  · left
    refine ⟨?_, ?_⟩
    · unfold fX11_within; rw [if_pos h]; rfl
    · rw [if_pos h]; rfl
  · left
    have h2 : (120 : Int32) ≤ x := wp_ge (n := 119) (by decide) h
    have h3 : (119 : Int32) < x := h
    refine ⟨?_, ?_⟩
    · unfold fX11_within
      by_cases h0 : x < 0
      · rw [if_pos h0]; rfl
      · rw [if_neg h0, if_pos h3]; rfl
    · by_cases h0 : x < 0
      · rw [if_pos h0]; rfl
      · rw [if_neg h0, if_pos h2]; rfl
  · right
    have a1 : ¬ nI i < 0 := nI_pos (by omega)
    have a2 : ¬ (119 : Int32) < nI i := nI_nlt (b := i) (a := 119) hi (by decide)
    have a3 : ¬ (120 : Int32) ≤ nI i := nI_ge (a := i) (b := 120) (by omega) (by decide)
    refine ⟨i, hi, rfl, ?_, ?_⟩
    · unfold fX11_within; rw [if_neg a1, if_neg a2]; rfl
    · rw [if_neg a1, if_neg a3]; rfl
theorem wp_oneX (N : Nat) (hN : 7 < N) (I0 : Nat → Int32) (M0 : Nat → Nat → Int32) (I1 : Nat → Int32) (M1 : Nat → Nat → Int32) (hM : ∀ j, j < 2640 → M1 0 j = -1) (i j : Nat) (hi : i < 120) (hj : j < 120) (x : Int32) : fX0_areOne N I0 M0 I1 M1 (nI i) (nI j) x = if 0 < x then some 0 else some 1 := by
  unfold fX0_areOne
  exact wp_lp (F := fun fu k => fX0_areOne_L6 N I0 M0 I1 M1 (nI i) (nI j) x fu 0 k) 7 _
    (fun fu => by show fX0_areOne_L6 N I0 M0 I1 M1 (nI i) (nI j) x (fu + 1) 0 (nI 7) = _; rw [fX0_areOne_L6.eq_2, if_pos (by decide)])
    (fun fu k hk => by
      show fX0_areOne_L6 N I0 M0 I1 M1 (nI i) (nI j) x (fu + 1) 0 (nI k) = _
      rw [fX0_areOne_L6.eq_2, if_neg (show ¬ (7 : Int32) ≤ nI k from nI_ge (a := k) (b := 7) hk (by decide)), wp_degM N I1 M1 hM i k hi (by omega), Option.bind_some, wp_degM N I1 M1 hM j k hj (by omega), Option.bind_some, if_pos rfl, Option.bind_some, nI_1])
    N 0 (Nat.zero_le _) (by omega)
theorem wp_sameM (N : Nat) (hN : 7 < N) (I : Nat → Int32) (L : Int64) (M : Nat → Nat → Int32) (hM : ∀ j, j < 2640 → M 7 j = -1) (i j : Nat) (hi : i < 120) (hj : j < 120) (x : Int32) : fX12_areSame N I L M (nI i) (nI j) x = if 0 < x then some 0 else some 1 := by
  unfold fX12_areSame
  exact wp_lp (F := fun fu k => fX12_areSame_L6 N I L M (nI i) (nI j) x fu 0 k) 7 _
    (fun fu => by show fX12_areSame_L6 N I L M (nI i) (nI j) x (fu + 1) 0 (nI 7) = _; rw [fX12_areSame_L6.eq_2, if_pos (by decide)])
    (fun fu k hk => by
      show fX12_areSame_L6 N I L M (nI i) (nI j) x (fu + 1) 0 (nI k) = _
      rw [fX12_areSame_L6.eq_2, if_neg (show ¬ (7 : Int32) ≤ nI k from nI_ge (a := k) (b := 7) hk (by decide)), wp_atM N I L M hM i k hi (by omega), Option.bind_some, wp_atM N I L M hM j k hj (by omega), Option.bind_some, if_pos rfl, Option.bind_some, nI_1])
    N 0 (Nat.zero_le _) (by omega)
set_option maxRecDepth 10000 in
theorem p1_same (N : Nat) (hN : 7 < N) (a b c : Int32) (o : Nat → Int64) : p1_z (fL_same N fx_I fx_M a b c o) (fX12_same N fm_I 0 fm_M a b c) := by
  unfold fL_same fX11_same fX12_same
  rw [wp_u0]
  simp only [Option.bind_some]
  rcases wp_w01 N c 1 7 with ⟨c1, c2⟩ | ⟨c1, c2⟩
  · rw [c1, c2]
    simp only [Option.bind_some]
    rcases wp_nb N a with ⟨k1, k2⟩ | ⟨i, hi, rfl, k1, k2⟩
    · rw [k1]; exact ⟨_, _, rfl, rfl, rfl, wp_t1⟩
    · rw [k1]
      rcases wp_nb N b with ⟨k1, k2⟩ | ⟨j, hj, rfl, k1, k2⟩
      · rw [k1]; exact ⟨_, _, rfl, rfl, rfl, wp_t1⟩
      · rw [k1]; exact ⟨_, _, rfl, rfl, rfl, wp_t1⟩
  · rw [c1, c2]
    simp only [Option.bind_some, wp_r1, wp_10, if_false]
    rcases wp_nb N a with ⟨k1, k2⟩ | ⟨i, hi, rfl, k1, k2⟩
    · rw [k1, k2]; exact ⟨_, _, rfl, rfl, rfl, wp_t1⟩
    · rw [k1, k2]
      simp only [Option.bind_some, wp_10, if_false]
      rcases wp_nb N b with ⟨k1, k2⟩ | ⟨j, hj, rfl, k1, k2⟩
      · rw [k1, k2]; exact ⟨_, _, rfl, rfl, rfl, wp_t1⟩
      · rw [k1, k2]
        simp only [Option.bind_some, wp_10, if_false]
        unfold fX11_same_J29
        simp only [Option.bind_some, wp_n1, wb_xb_r]
        rw [wp_oneX N hN _ _ _ _ wp_M13 i j (by omega) (by omega), wp_sameM N hN _ _ _ wp_M7 i j (by omega) (by omega)]
        by_cases q : 0 < c
        · rw [if_pos q]; exact ⟨_, _, rfl, rfl, rfl, fun _ => rfl⟩
        · rw [if_neg q]; exact ⟨_, _, rfl, rfl, rfl, fun _ => rfl⟩
/-! places -/
theorem wp_div1 (x : Int32) : x / 1 = x := by
  apply Int32.toBitVec_inj.mp
  rw [Int32.toBitVec_div]
  exact BitVec.sdiv_one
theorem wp_7 (i j : Nat) : (7 : Int32) * nI i + nI j = nI (7 * i + j) := by rw [show (7 : Int32) = nI 7 from rfl, pk_mul, nI_add]
theorem wp_placeX (N : Nat) (I : Nat → Int32) (i j : Nat) (hi : i ≤ 3) (hj : j ≤ 6) (x : Int32) : fX5_placeOn N I (wb_sh fx_M 1) (nI i) (nI j) x = some 0 := by
  unfold fX5_placeOn fX5_swingOn
  have hin := wp_in (k := 7 * i + j) (n := 28) (by omega) (by decide)
  have z0 : ∀ v, (wb_sh fx_M 1) 0 v = 0 := fun v => by show fx_M 1 v = 0; simp [fx_M]
  have z1 : ∀ v, (wb_sh fx_M 1) 1 v = 0 := fun v => by show fx_M 2 v = 0; simp [fx_M]
  have z2 : ∀ v, (wb_sh fx_M 1) 2 v = 0 := fun v => by show fx_M 3 v = 0; simp [fx_M]
  have m0 : ((0 : Int32).toInt64 * x.toInt64) / 1000 = 0 := by rw [show (0 : Int32).toInt64 = 0 from rfl, Int64.zero_mul]; rfl
  simp only [Option.bind_some, wp_7, hin, if_false, z0, z1, z2, if_true, m0]
  rfl
theorem wp_placeM (N : Nat) (I : Nat → Int32) (i j : Nat) (hi : i ≤ 3) (hj : j ≤ 6) (x : Int32) : fX12_placeOn N I 0 fm_M (nI i) (nI j) x = some 0 := by
  unfold fX12_placeOn fX12_placeOn_J79
  have hin := wp_in (k := 7 * i + j) (n := 28) (by omega) (by decide)
  have hin2 : ¬ (nI (7 * i + j) < 0 ∨ 28 ≤ 7 * i + j) := by rw [nI_clamp (by omega)] at hin; exact hin
  have z0 : ∀ v, fm_M 0 v = 0 := fun v => by simp [fm_M]
  have z1 : ∀ v, fm_M 1 v = 0 := fun v => by simp [fm_M]
  have z2 : ∀ v, fm_M 2 v = 0 := fun v => by simp [fm_M]
  have z3 : fm_M 3 (7 * i + j) = 1 := by simp [fm_M]; omega
  have m0 : ((0 : Int32).toInt64 * x.toInt64) / 1000 = 0 := by rw [show (0 : Int32).toInt64 = 0 from rfl, Int64.zero_mul]; rfl
  have m1 : x - x / 1 * 1 = 0 := by rw [wp_div1, Int32.mul_one, Int32.sub_self]
  simp only [Option.bind_some, wp_7, hin, hin2, if_false, nI_clamp (n := 7 * i + j) (by omega), z0, z1, z2, z3, m0, m1, wp_10]
  rfl
set_option maxRecDepth 10000 in
theorem p1_place (N : Nat) (a b c : Int32) (o : Nat → Int64) : p1_t (fL_place N fx_I fx_M a b c o) (fX12_place N fm_I 0 fm_M a b c) := by
  unfold fL_place fX11_place fX12_place
  rw [wp_u0]
  simp only [Option.bind_some]
  rcases wp_wi N a 3 (by decide) with ⟨k1, k2⟩ | ⟨i, hi, rfl, k1, k2⟩
  · have k1 : fX11_within N a 0 3 = some 0 := k1
    have k2 : fX12_within N a 0 3 = some 0 := k2
    rw [k1, k2]; exact ⟨_, _, rfl, rfl, rfl, wp_t1⟩
  · have k1 : fX11_within N (nI i) 0 3 = some 1 := k1
    have k2 : fX12_within N (nI i) 0 3 = some 1 := k2
    rw [k1, k2]
    simp only [Option.bind_some, wp_10, if_false]
    rcases wp_wi N b 6 (by decide) with ⟨k1, k2⟩ | ⟨j, hj, rfl, k1, k2⟩
    · have k1 : fX11_within N b 0 6 = some 0 := k1
      have k2 : fX12_within N b 0 6 = some 0 := k2
      rw [k1, k2]; exact ⟨_, _, rfl, rfl, rfl, wp_t1⟩
    · have k1 : fX11_within N (nI j) 0 6 = some 1 := k1
      have k2 : fX12_within N (nI j) 0 6 = some 1 := k2
      rw [k1, k2]
      simp only [Option.bind_some, wp_10, if_false]
      rcases wp_day N c with ⟨d1, d2⟩ | ⟨q, hq, rfl, d1, d2⟩
      · rw [d1, d2]; exact ⟨_, _, rfl, rfl, rfl, wp_t1⟩
      · rw [d1, d2]
        simp only [Option.bind_some, wp_10, if_false]
        unfold fX11_place_J31 fX12_place_J40
        simp only [Option.bind_some, wp_n1, wb_xb_r, wp_r1, wp_10, if_false]
        rw [wp_placeX N _ i j hi hj, wp_placeM N _ i j hi hj]
        exact ⟨_, _, rfl, rfl, rfl, fun _ => rfl⟩

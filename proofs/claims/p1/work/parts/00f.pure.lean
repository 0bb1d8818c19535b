/-! p1, pure: the methods, one by one -/
theorem wp_t1 {P : Prop} : (1 : Int32) = 0 → P := fun h => absurd h wp_10
theorem p1_thrown1 {k : Nat} {I : Nat → Int32} {M : Nat → Nat → Int32} {o : Nat → Int64} {L : Int64} {M1 : Nat → Nat → Int32} {v : Int32} : p1_t (some ((1 : Int32), I, M, o)) (some (v, fm_1, L, M1)) := ⟨_, _, rfl, rfl, rfl, wp_t1⟩
set_option maxRecDepth 10000 in
theorem p1_entry (N : Nat) (a b c : Int32) (o : Nat → Int64) : p1_t (fL_entry N fx_I fx_M a b c o) (fX12_entry N fm_I 0 fm_M a b c) := by
  unfold fL_entry fX11_entry fX12_entry
  rcases wp_num N a b with ⟨h1, h2⟩ | ⟨i, j, hi, hj, rfl, rfl, h1, h2⟩
  · rw [h1, h2]; exact ⟨_, _, rfl, rfl, rfl, wp_t1⟩
  · rw [h1, h2]
    simp only [wb_xb_r, Option.bind_some, wp_10, if_false]
    rcases wp_wi N c 21 (by decide) with ⟨k1, k2⟩ | ⟨e, he, rfl, k1, k2⟩
    · have k1 : fX11_within N c 0 21 = some 0 := k1
      have k2 : fX12_within N c 0 21 = some 0 := k2
      rw [k1, k2]; exact ⟨_, _, rfl, rfl, rfl, wp_t1⟩
    · have k1 : fX11_within N (nI e) 0 21 = some 1 := k1
      have k2 : fX12_within N (nI e) 0 21 = some 1 := k2
      have e1 : (20 : Int32) * nI i + nI j = nI (20 * i + j) := by rw [show (20 : Int32) = nI 20 from rfl, pk_mul, nI_add]
      have hd := wp_deg N (wb_sh fx_I 13) (20 * i + j) e (by omega) (by omega)
      rw [k1, k2, e1]
      simp only [Option.bind_some, wp_n1, wb_xb_r, wp_r1, wp_10, if_false, hd.1, hd.2]
      exact ⟨_, _, rfl, rfl, rfl, fun _ => rfl⟩
theorem wp_M13 : ∀ j, j < 2640 → (wb_sh fx_M 13) 0 j = -1 := by
  intro j hj
  show fx_M 13 j = -1
  simp [fx_M, hj]
theorem wp_M7 : ∀ j, j < 2640 → fm_M 7 j = -1 := by
  intro j hj
  simp [fm_M, hj]
theorem wp_20 (i j : Nat) : (20 : Int32) * nI i + nI j = nI (20 * i + j) := by rw [show (20 : Int32) = nI 20 from rfl, pk_mul, nI_add]
set_option maxRecDepth 10000 in
theorem p1_cost (N : Nat) (hN : 7 < N) (a b c d : Int32) (o : Nat → Int64) : p1_t (fL_cost N fx_I fx_M a b c d o) (fX12_cost N fm_I 0 fm_M a b c d) := by
  unfold fL_cost fX11_cost fX12_cost
  rcases wp_num N a b with ⟨h1, h2⟩ | ⟨i, j, hi, hj, rfl, rfl, h1, h2⟩
  · rw [h1, h2]; exact ⟨_, _, rfl, rfl, rfl, wp_t1⟩
  · rw [h1, h2]
    simp only [wb_xb_r, Option.bind_some, wp_10, if_false]
    rcases wp_wi N c 3 (by decide) with ⟨k1, k2⟩ | ⟨e, he, rfl, k1, k2⟩
    · have k1 : fX11_within N c 0 3 = some 0 := k1
      have k2 : fX12_within N c 0 3 = some 0 := k2
      rw [k1, k2]; exact ⟨_, _, rfl, rfl, rfl, wp_t1⟩
    · have k1 : fX11_within N (nI e) 0 3 = some 1 := k1
      have k2 : fX12_within N (nI e) 0 3 = some 1 := k2
      rw [k1, k2]
      simp only [Option.bind_some, wp_10, if_false]
      rcases wp_day N d with ⟨d1, d2⟩ | ⟨q, hq, rfl, d1, d2⟩
      · rw [d1, d2]; exact ⟨_, _, rfl, rfl, rfl, wp_t1⟩
      · rw [d1, d2]
        simp only [Option.bind_some, wp_10, if_false]
        unfold fX11_cost_J29 fX12_cost_J35
        simp only [wp_n1, wb_xb_r, wp_r1, Option.bind_some, wp_10, if_false, wp_20]
        rw [wp_costX N _ _ _ _ wp_M13 (20 * i + j) (by omega) _ _ _ (by decide) hN, wp_costM N _ _ _ wp_M7 (20 * i + j) (by omega) _ _ _ (by decide) hN]
        exact ⟨_, _, rfl, rfl, rfl, fun _ => rfl⟩
set_option maxRecDepth 10000 in
theorem p1_hour (N : Nat) (hN : 0 < N) (a b c : Int32) (o : Nat → Int64) : p1_t (fL_hour N fx_I fx_M a b c o) (fX12_hour N fm_I 0 fm_M a b c) := by
  unfold fL_hour fX11_hour fX12_hour
  rcases wp_num N a b with ⟨h1, h2⟩ | ⟨i, j, hi, hj, rfl, rfl, h1, h2⟩
  · rw [h1, h2]; exact ⟨_, _, rfl, rfl, rfl, wp_t1⟩
  · rw [h1, h2]
    have hd := wp_deg N (wb_sh fx_I 13) (20 * i + j) 0 (by omega) (by omega)
    have hd7 := wp_deg N (wb_sh fx_I 13) (20 * i + j) 7 (by omega) (by omega)
    have e0 : (nI 0 : Int32) = 0 := rfl
    have e7 : (nI 7 : Int32) = 7 := rfl
    rw [e0] at hd
    rw [e7] at hd7
    simp only [wb_xb_r, Option.bind_some, wp_10, if_false, wp_20, hd.1, hd7.1, hd.2, if_true]
    unfold fX11_hour_J48 fX12_hour_J46 fX11_hour_J49 fX12_hour_J47
    by_cases hc : c = -1
    · subst hc; exact ⟨_, _, rfl, rfl, rfl, fun _ => rfl⟩
    · obtain ⟨N, rfl⟩ : ∃ n, N = n + 1 := ⟨N - 1, by omega⟩
      simp only [hc, if_false, if_true]
      unfold fX12_hour_J61
      rw [fX12_hour_L67.eq_2, show (360 * fm_0 1 : Int32) = 0 from rfl, if_pos (by decide)]
      unfold fX12_hour_J127
      simp only [hc, if_false]
      exact ⟨_, _, rfl, rfl, rfl, wp_t1⟩
set_option maxRecDepth 10000 in
theorem p1_agree (N : Nat) (a b c d : Int32) (o : Nat → Int64) : p1_t (fL_agree N fx_I fx_M a b c d o) (fX12_agree N fm_I 0 fm_M a b c d) := by
  unfold fL_agree fX11_agree fX12_agree
  rcases wp_num N a b with ⟨h1, h2⟩ | ⟨i, j, hi, hj, rfl, rfl, h1, h2⟩
  · rw [h1, h2]; exact ⟨_, _, rfl, rfl, rfl, wp_t1⟩
  · rw [h1, h2]
    simp only [wb_xb_r, Option.bind_some, wp_10, if_false]
    rcases wp_way N c d with ⟨k1, k2⟩ | ⟨e, he, rfl, k1, k2⟩
    · rw [k1, k2]; exact ⟨_, _, rfl, rfl, rfl, wp_t1⟩
    · rw [k1, k2]
      have hd7 := wp_deg N (wb_sh fx_I 13) (20 * i + j) 7 (by omega) (by omega)
      have e7 : (nI 7 : Int32) = 7 := rfl
      rw [e7] at hd7
      simp only [Option.bind_some, wp_n1, wb_xb_r, wp_10, if_false, wp_20, hd7.1, hd7.2, if_true]
      exact ⟨_, _, rfl, rfl, rfl, fun _ => rfl⟩
theorem wp_one {x : Int32} {e : Nat} (he : e ≤ 1) (h : x = nI e) : x = 0 ∨ x = 1 := by
  rcases (by omega : e = 0 ∨ e = 1) with q | q
  · subst q; exact Or.inl h
  · subst q; exact Or.inr h
theorem wp_one0 (N : Nat) {x : Int32} (h : fX11_within N x 0 1 = some 0) : ¬ x = 0 ∧ ¬ x = 1 := by
  constructor
  · intro q; subst q; exact absurd h (by simp [fX11_within])
  · intro q; subst q; exact absurd h (by simp [fX11_within])
set_option maxRecDepth 10000 in
theorem p1_possible (N : Nat) (a b c : Int32) (o : Nat → Int64) : p1_t (fL_possible N fx_I fx_M a b c o) (fX12_possible N fm_I 0 fm_M a b c) := by
  unfold fL_possible fX11_possible fX12_possible
  rcases wp_num N a b with ⟨h1, h2⟩ | ⟨i, j, hi, hj, rfl, rfl, h1, h2⟩
  · rw [h1, h2]; exact ⟨_, _, rfl, rfl, rfl, wp_t1⟩
  · rw [h1, h2]
    simp only [wb_xb_r, Option.bind_some, wp_10, if_false]
    rcases wp_wi N c 1 (by decide) with ⟨k1, k2⟩ | ⟨e, he, hc, k1, k2⟩
    · have k1 : fX11_within N c 0 1 = some 0 := k1
      obtain ⟨n0, n1⟩ := wp_one0 N k1
      rw [k1]
      simp only [n0, n1, if_false]
      exact ⟨_, _, rfl, rfl, rfl, wp_t1⟩
    · have k1 : fX11_within N c 0 1 = some 1 := k1
      have hd7 := wp_deg N (wb_sh fx_I 13) (20 * i + j) 7 (by omega) (by omega)
      have e7 : (nI 7 : Int32) = 7 := rfl
      rw [e7] at hd7
      rw [k1]
      rcases wp_one he hc with q | q
      · subst q
        unfold fX12_possible_J19 fX12_possible_J24
        simp only [Option.bind_some, wp_n1, wb_xb_r, wp_r1, wp_10, if_false, wp_20, hd7.1, hd7.2, if_true]
        exact ⟨_, _, rfl, rfl, rfl, fun _ => rfl⟩
      · subst q
        unfold fX12_possible_J19 fX12_possible_J24
        simp only [Option.bind_some, wp_n1, wb_xb_r, wp_r1, wp_10, if_false, wp_20, hd7.1, hd7.2, if_true]
        exact ⟨_, _, rfl, rfl, rfl, fun _ => rfl⟩
set_option maxRecDepth 10000 in
theorem p1_misread (N : Nat) (a b c d e : Int32) (o : Nat → Int64) : p1_t (fL_misread N fx_I fx_M a b c d e o) (fX12_misread N fm_I 0 fm_M a b c d e) := by
  unfold fL_misread fX11_misread fX12_misread
  rcases wp_num N a b with ⟨h1, h2⟩ | ⟨i, j, hi, hj, rfl, rfl, h1, h2⟩
  · rw [h1, h2]; exact ⟨_, _, rfl, rfl, rfl, wp_t1⟩
  · rw [h1, h2]
    simp only [wb_xb_r, Option.bind_some, wp_10, if_false]
    rcases wp_wi N c 3 (by decide) with ⟨k1, k2⟩ | ⟨c, hc, rfl, k1, k2⟩
    · have k1 : fX11_within N c 0 3 = some 0 := k1
      have k2 : fX12_within N c 0 3 = some 0 := k2
      rw [k1, k2]; exact ⟨_, _, rfl, rfl, rfl, wp_t1⟩
    · have k1 : fX11_within N (nI c) 0 3 = some 1 := k1
      have k2 : fX12_within N (nI c) 0 3 = some 1 := k2
      rw [k1, k2]
      simp only [Option.bind_some, wp_10, if_false]
      rcases wp_day N d with ⟨d1, d2⟩ | ⟨q, hq, rfl, d1, d2⟩
      · rw [d1, d2]; exact ⟨_, _, rfl, rfl, rfl, wp_t1⟩
      · rw [d1, d2]
        simp only [Option.bind_some, wp_10, if_false]
        rcases wp_wi N e 6 (by decide) with ⟨k1, k2⟩ | ⟨e, he, rfl, k1, k2⟩
        · have k1 : fX11_within N e 0 6 = some 0 := k1
          have k2 : fX12_within N e 0 6 = some 0 := k2
          rw [k1, k2]; exact ⟨_, _, rfl, rfl, rfl, wp_t1⟩
        · have k1 : fX11_within N (nI e) 0 6 = some 1 := k1
          have k2 : fX12_within N (nI e) 0 6 = some 1 := k2
          have hd := wp_deg N (wb_sh fx_I 13) (20 * i + j) e (by omega) (by omega)
          rw [k1, k2]
          unfold fX11_misread_J40 fX12_misread_J46
          simp only [Option.bind_some, wp_n1, wb_xb_r, wp_r1, wp_10, if_false, wp_20, hd.1, hd.2, if_true]
          exact ⟨_, _, rfl, rfl, rfl, fun _ => rfl⟩
set_option maxRecDepth 10000 in
theorem p1_day (N : Nat) (a : Int32) (o : Nat → Int64) : p1_t (fL_day N fx_I fx_M a o) (fX12_day N fm_I 0 fm_M a) := ⟨_, _, rfl, rfl, rfl, wp_t1⟩
set_option maxRecDepth 10000 in
theorem p1_on (N : Nat) (a : Int32) (o : Nat → Int64) : p1_t (fL_on N fx_I fx_M a o) (fX12_on N fm_I 0 fm_M a) := ⟨_, _, rfl, rfl, rfl, wp_t1⟩
set_option maxRecDepth 10000 in
theorem p1_held (N : Nat) (a : Int32) (o : Nat → Int64) : p1_t (fL_held N fx_I fx_M a o) (fX12_held N fm_I 0 fm_M a) := ⟨_, _, rfl, rfl, rfl, wp_t1⟩
set_option maxRecDepth 10000 in
theorem p1_climb (N : Nat) (a b : Int32) (o : Nat → Int64) : p1_t (fL_climb N fx_I fx_M a b o) (fX12_climb N fm_I 0 fm_M a b) := by
  unfold fL_climb fX11_climb fX12_climb
  rw [wp_u0, wp_clim]
  simp only [Option.bind_some, wp_climM, if_true]
  exact ⟨_, _, rfl, rfl, rfl, wp_t1⟩
set_option maxRecDepth 10000 in
theorem p1_rise (N : Nat) (a b c : Int32) (o : Nat → Int64) : p1_t (fL_rise N fx_I fx_M a b c o) (fX12_rise N fm_I 0 fm_M a b c) := by
  unfold fL_rise fX11_rise fX12_rise
  rw [wp_u0, wp_clim]
  simp only [Option.bind_some, wp_climM, if_true]
  exact ⟨_, _, rfl, rfl, rfl, wp_t1⟩
set_option maxRecDepth 10000 in
theorem p1_middle (N : Nat) (a b : Int32) (o : Nat → Int64) : p1_t (fL_middle N fx_I fx_M a b o) (fX12_middle N fm_I 0 fm_M a b) := by
  unfold fL_middle fX11_middle fX12_middle
  rw [wp_u0, wp_clim]
  simp only [Option.bind_some, wp_climM, if_true]
  exact ⟨_, _, rfl, rfl, rfl, wp_t1⟩
set_option maxRecDepth 10000 in
theorem p1_slips (N : Nat) (a b : Int32) (o : Nat → Int64) : p1_t (fL_slips N fx_I fx_M a b o) (fX12_slips N fm_I 0 fm_M a b) := by
  unfold fL_slips fX11_slips fX12_slips
  rw [wp_u0]
  simp only [Option.bind_some]
  rcases wp_wi N a 29 (by decide) with ⟨k1, k2⟩ | ⟨c, hc, rfl, k1, k2⟩
  · have k1 : fX11_within N a 0 29 = some 0 := k1
    have k2 : fX12_within N a 0 29 = some 0 := k2
    rw [k1, k2]; exact ⟨_, _, rfl, rfl, rfl, wp_t1⟩
  · have k1 : fX11_within N (nI c) 0 29 = some 1 := k1
    have k2 : fX12_within N (nI c) 0 29 = some 1 := k2
    rw [k1, k2]
    simp only [Option.bind_some, wp_10, if_false]
    rcases wp_wi N b 29 (by decide) with ⟨k1, k2⟩ | ⟨c, hc, rfl, k1, k2⟩
    · have k1 : fX11_within N b 0 29 = some 0 := k1
      have k2 : fX12_within N b 0 29 = some 0 := k2
      rw [k1, k2]; exact ⟨_, _, rfl, rfl, rfl, wp_t1⟩
    · have k1 : fX11_within N (nI c) 0 29 = some 1 := k1
      have k2 : fX12_within N (nI c) 0 29 = some 1 := k2
      rw [k1, k2]; exact ⟨_, _, rfl, rfl, rfl, wp_t1⟩
set_option maxRecDepth 10000 in
theorem p1_whence (N : Nat) (a : Int32) (o : Nat → Int64) : p1_t (fL_whence N fx_I fx_M a o) (fX12_whence N fm_I 0 fm_M a) := by
  unfold fL_whence fX11_whence fX12_whence
  rw [wp_u0]
  simp only [Option.bind_some]
  rcases wp_bk N a with ⟨k1, k2⟩ | ⟨c, hc, rfl, k1, k2⟩
  · rw [k1, k2]; exact ⟨_, _, rfl, rfl, rfl, wp_t1⟩
  · rw [k1, k2]; exact ⟨_, _, rfl, rfl, rfl, wp_t1⟩
set_option maxRecDepth 10000 in
theorem p1_life (N : Nat) (a b c : Int32) (o : Nat → Int64) : p1_z (fL_life N fx_I fx_M a b c o) (fX12_life N fm_I 0 fm_M a b c) := by
  unfold fL_life fX11_life fX12_life
  rw [wp_u0]
  simp only [Option.bind_some]
  rcases wp_wi N a 19 (by decide) with ⟨k1, k2⟩ | ⟨i, hi, rfl, k1, k2⟩
  · have k1 : fX11_within N a 0 19 = some 0 := k1
    have k2 : fX12_within N a 0 19 = some 0 := k2
    rw [k1, k2]; exact ⟨_, _, rfl, rfl, rfl, wp_t1⟩
  · have k1 : fX11_within N (nI i) 0 19 = some 1 := k1
    have k2 : fX12_within N (nI i) 0 19 = some 1 := k2
    rw [k1, k2]
    simp only [Option.bind_some, wp_n1, wb_xb_r, wp_r1, wp_10, if_false]
    rcases wp_wi N b 120 (by decide) with ⟨k1, k2⟩ | ⟨y, hy, rfl, k1, k2⟩
    · have k1 : fX11_within N b 0 120 = some 0 := k1
      have k2 : fX12_within N b 0 120 = some 0 := k2
      rw [k1, k2]; exact ⟨_, _, rfl, rfl, rfl, fun _ => rfl⟩
    · have k1 : fX11_within N (nI y) 0 120 = some 1 := k1
      have k2 : fX12_within N (nI y) 0 120 = some 1 := k2
      rw [k1, k2]
      simp only [Option.bind_some, wp_10, if_false]
      rcases wp_wi N c 120 (by decide) with ⟨k1, k2⟩ | ⟨z, hz, rfl, k1, k2⟩
      · have k1 : fX11_within N c 0 120 = some 0 := k1
        have k2 : fX12_within N c 0 120 = some 0 := k2
        rw [k1, k2]; exact ⟨_, _, rfl, rfl, rfl, fun _ => rfl⟩
      · have k1 : fX11_within N (nI z) 0 120 = some 1 := k1
        have k2 : fX12_within N (nI z) 0 120 = some 1 := k2
        rw [k1, k2]
        unfold fX7_tellLife
        simp only [Option.bind_some, wp_10, if_false, wp_in (k := i) (n := 20) (by omega) (by decide)]
        exact ⟨_, _, rfl, rfl, rfl, fun _ => rfl⟩
set_option maxRecDepth 10000 in
theorem p1_fate (N : Nat) (a b : Int32) (o : Nat → Int64) : p1_z (fL_fate N fx_I fx_M a b o) (fX12_fate N fm_I 0 fm_M a b) := by
  unfold fL_fate fX11_fate fX12_fate
  rw [wp_u0]
  simp only [Option.bind_some]
  rcases wp_wi N a 19 (by decide) with ⟨k1, k2⟩ | ⟨i, hi, rfl, k1, k2⟩
  · have k1 : fX11_within N a 0 19 = some 0 := k1
    have k2 : fX12_within N a 0 19 = some 0 := k2
    rw [k1, k2]; exact ⟨_, _, rfl, rfl, rfl, wp_t1⟩
  · have k1 : fX11_within N (nI i) 0 19 = some 1 := k1
    have k2 : fX12_within N (nI i) 0 19 = some 1 := k2
    rw [k1, k2]
    simp only [Option.bind_some, wp_n1, wb_xb_r, wp_r1, wp_10, if_false]
    have hw : fX11_within N b 1 12 = fX12_within N b 1 12 := rfl
    have hb : fX12_within N b 1 12 = some 0 ∨ fX12_within N b 1 12 = some 1 := by
      unfold fX12_within
      by_cases q1 : b < 1
      · rw [if_pos q1]; exact Or.inl rfl
      · by_cases q2 : 12 < b
        · rw [if_neg q1, if_pos q2]; exact Or.inl rfl
        · rw [if_neg q1, if_neg q2]; exact Or.inr rfl
    rw [hw]
    rcases hb with q | q
    · rw [q]; exact ⟨_, _, rfl, rfl, rfl, fun _ => rfl⟩
    · rw [q]
      unfold fX7_tellFate
      simp only [Option.bind_some, wp_10, if_false, wp_in (k := i) (n := 20) (by omega) (by decide)]
      exact ⟨_, _, rfl, rfl, rfl, fun _ => rfl⟩

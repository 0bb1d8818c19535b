/-! p1, pure: best, whose, mixed -/
theorem wp_t2 {P : Prop} : (2 : Int32) = 0 → P := fun h => absurd h (by decide)
def wp_bI (I : Nat → Int32) (a b c : Int32) : Nat → Int32 := upd (upd (upd (upd (upd (upd (upd I 0 1) 1 a) 2 b) 3 c) 4 1000) 5 0) 6 (-1)
theorem wp_begin (N : Nat) (I : Nat → Int32) (M : Nat → Nat → Int32) (a b c : Int32) : fX8_begin N I M a b c = some (wp_bI I a b c, M) := rfl
theorem wp_nospan (N : Nat) (x y : Int32) (h : fX12_within N x 0 1000000 = some 0) : fX12_isSpan N fm_0 0 fm_M x y = some (0, fm_1, 0, fm_M) := by
  unfold fX12_isSpan
  rw [h]; rfl
set_option maxRecDepth 10000 in
theorem p1_best (N : Nat) (hN : 60000 ≤ N) (a b c d e : Int32) (o : Nat → Int64) : p1_t (fL_best N fx_I fx_M a b c d e o) (fX12_best N fm_I 0 fm_M a b c d e) := by
  unfold fL_best fX11_best fX12_best
  rcases wp_num N a b with ⟨h1, h2⟩ | ⟨i, j, hi, hj, rfl, rfl, h1, h2⟩
  · rw [h1, h2]; exact ⟨_, _, rfl, rfl, rfl, wp_t1⟩
  · rw [h1, h2]
    simp only [wb_xb_r, Option.bind_some, wp_10, if_false]
    rcases wp_w01 N c 0 3 with ⟨k1, k2⟩ | ⟨k1, k2⟩
    · rw [k1, k2]; exact ⟨_, _, rfl, rfl, rfl, wp_t1⟩
    · rw [k1, k2]
      simp only [Option.bind_some, wp_r1, wp_10, if_false]
      rcases wp_day N d with ⟨d1, d2⟩ | ⟨q, hq, rfl, d1, d2⟩
      · rw [d1, wp_nospan N d e d2]; exact ⟨_, _, rfl, rfl, rfl, wp_t1⟩
      · rw [d1]
        simp only [Option.bind_some, wp_10, if_false]
        unfold fX11_best_J29
        simp only [wp_n1, wb_xb_r]
        rcases wp_span N q hq e with ⟨s1, s2⟩ | ⟨k, hk, hqk, rfl, s1, s2⟩
        · rw [s1, s2]; exact ⟨_, _, rfl, rfl, rfl, wp_t2⟩
        · rw [s1, s2]
          simp only [Option.bind_some, wp_a1, wb_xb_r, wp_10, if_false, wp_begin]
          obtain ⟨v, I', M', hg, h4⟩ := wp_goAll N hN (wb_sh (wb_in fx_I 13 7 (wp_bI (wb_sh fx_I 13) (nI (20 * i + j)) c (nI q))) 9) (wb_sh (wb_in fx_M 16 1 (wb_sh fx_M 16)) 1) (wb_sh (wb_in fx_I 13 7 (wp_bI (wb_sh fx_I 13) (nI (20 * i + j)) c (nI q))) 13) (wb_sh (wb_in fx_M 16 1 (wb_sh fx_M 16)) 13) (fun j hj => by show fx_M 13 j = -1; simp [fx_M, hj]) (20 * i + j) (by omega) k q hk hq (wb_sh (wb_in fx_I 13 7 (wp_bI (wb_sh fx_I 13) (nI (20 * i + j)) c (nI q))) 13) (wb_sh (wb_in fx_M 16 1 (wb_sh fx_M 16)) 16) rfl rfl rfl rfl
          rw [hg]
          have hm : ∃ I2 M2, fX12_best_L45 N (nI i) (nI j) c (nI q) (nI k) N fm_0 0 fm_M 999 (nI q) = some (0, I2, 0, M2) ∧ I2 0 = 0 := by
            obtain ⟨N, rfl⟩ : ∃ n, N = n + 1 := ⟨N - 1, by omega⟩
            rw [fX12_best_L45.eq_2, nI_add, if_neg (nI_nlt (by omega) (by omega)), wp_20, wp_costM (N + 1) fm_0 0 fm_M wp_M7 (20 * i + j) (by omega) _ _ _ (by decide) (by omega), Option.bind_some, if_pos (by decide), if_neg (by decide), Option.bind_some]
            unfold fX12_best_J94 fX12_best_J118
            rw [if_neg (by decide), if_neg (by decide), Option.bind_some, Option.bind_some, Option.bind_some]
            exact wp_bestM (N + 1) (by omega) i j hi hj c q k hqk N (q + 1) _ _ _ (nI_1 q) (by omega) (by omega) (by omega) (fun j hj => by simp [wb_um, wp_M7 j hj]) rfl ⟨1, by omega, rfl⟩
          obtain ⟨I2, M2, hm, h0⟩ := hm
          rw [hm]
          refine ⟨_, _, rfl, rfl, h0, fun _ => ?_⟩
          show (I' 4).toInt64 = (0 : Int32).toInt64
          rw [h4]
/-- whose: the class, after the first set -/
theorem wp_whoseX (N : Nat) (hN : 60000 ≤ N) (a b : Int32) (q k n : Nat) (hn : n < 120) (hk : k ≤ 50000) (hq : q ≤ 1000000) (x : Int32) : ∀ (fu s : Nat) (I : Nat → Int32) (M : Nat → Nat → Int32), s ≤ 4 → 4 - s < fu → (∀ j, j < 2640 → M 13 j = -1) → ∃ I' M', fX11_whose_L55 N a b (nI q) (nI k) x (nI n) fu I M 0 0 (nI s) (nI s) = some (if x = 0 then 0 else if x = 1 then 0 else 4, I', M') := by
  intro fu
  induction fu with
  | zero => intro s I M _ h; omega
  | succ fu ih =>
    intro s I M hs hf hM
    rw [fX11_whose_L55.eq_2]
    rcases Nat.lt_or_ge s 4 with h | h
    · rw [if_neg (show ¬ (4 : Int32) ≤ nI s from nI_ge (a := s) (b := 4) h (by decide))]
      simp only [Option.bind_some, wp_begin]
      obtain ⟨v, I', M', hg, h4⟩ := wp_goAll N hN (wb_sh (wb_in I 20 7 (wp_bI (wb_sh I 20) (nI n) (nI s) (nI q))) 9) (wb_sh (wb_in M 17 1 (wb_sh M 17)) 1) (wb_sh (wb_in I 20 7 (wp_bI (wb_sh I 20) (nI n) (nI s) (nI q))) 13) (wb_sh (wb_in M 17 1 (wb_sh M 17)) 13) (fun j hj => by show M 13 j = -1; exact hM j hj) n hn k q hk hq (wb_sh (wb_in I 20 7 (wp_bI (wb_sh I 20) (nI n) (nI s) (nI q))) 20) (wb_sh (wb_in M 17 1 (wb_sh M 17)) 17) rfl rfl rfl rfl
      rw [hg]
      simp only [Option.bind_some]
      have e24 : (wb_in (wb_in I 20 7 (wp_bI (wb_sh I 20) (nI n) (nI s) (nI q))) 20 7 I') 24 = 0 := by show I' 4 = 0; exact h4
      rw [e24, if_pos (by decide)]
      unfold fX11_whose_J121
      rw [e24, if_pos rfl, Option.bind_some, Option.bind_some, nI_1]
      exact ih (s + 1) _ _ h (by omega) (fun j hj => by show M 13 j = -1; exact hM j hj)
    · have e : s = 4 := by omega
      subst e
      rw [if_pos (by decide)]
      by_cases x0 : x = 0
      · rw [if_pos x0, if_pos x0]; exact ⟨_, _, rfl⟩
      · rw [if_neg x0, if_neg x0]
        by_cases x1 : x = 1
        · rw [if_pos x1, if_pos x1]; exact ⟨_, _, rfl⟩
        · rw [if_neg x1, if_neg x1]; exact ⟨_, _, rfl⟩
theorem wp_w64 (N : Nat) (hN : 60000 ≤ N) (i j : Nat) (hi : i ≤ 5) (hj : j ≤ 19) (q k : Nat) (hk : k ≤ 50000) (hqk : q + k ≤ 1000000) (x y6 y7 y8 y9 : Int32) (g : (Nat → Int32) → Int64 → (Nat → Nat → Int32) → Int32 → Int32 → Int32 → Int32 → Option (Int32 × (Nat → Int32) × Int64 × (Nat → Nat → Int32))) : fX12_whose_L64 N (nI i) (nI j) (nI q) (nI k) x y6 y7 y8 y9 g N fm_0 0 fm_M 999 (nI q) = if 0 ≤ y6 then (if y6 ≤ 0 then (fX12_whose_J138 N (nI i) (nI j) (nI q) (nI k) x g fm_0 0 fm_M y6 y7 y9 0 (y8 + (1 : Int32))) else fX12_whose_J138 N (nI i) (nI j) (nI q) (nI k) x g fm_0 0 fm_M y6 y7 y9 0 (1 : Int32)) else (some (y9 + (1 : Int32))).bind fun v7 => g fm_0 0 fm_M y6 y7 y8 v7 := by
  obtain ⟨N, rfl⟩ : ∃ n, N = n + 1 := ⟨N - 1, by omega⟩
  rw [fX12_whose_L64.eq_2, nI_add, if_neg (nI_nlt (by omega) (by omega)), wp_20, wp_costM (N + 1) fm_0 0 fm_M wp_M7 (20 * i + j) (by omega) _ _ _ (by decide) (by omega), Option.bind_some, if_neg (by decide), Option.bind_some, nI_1]
  exact wp_lp (F := fun fu m => fX12_whose_L64 (N + 1) (nI i) (nI j) (nI q) (nI k) x y6 y7 y8 y9 g fu fm_0 0 fm_M 0 m) (q + k + 1) _
    (fun fu => by
      show fX12_whose_L64 (N + 1) (nI i) (nI j) (nI q) (nI k) x y6 y7 y8 y9 g (fu + 1) fm_0 0 fm_M 0 (nI (q + k + 1)) = _
      rw [fX12_whose_L64.eq_2, nI_add, if_pos (nI_lt (by omega) (by omega))])
    (fun fu m hm => by
      show fX12_whose_L64 (N + 1) (nI i) (nI j) (nI q) (nI k) x y6 y7 y8 y9 g (fu + 1) fm_0 0 fm_M 0 (nI m) = _
      rw [fX12_whose_L64.eq_2, nI_add, if_neg (nI_nlt (by omega) (by omega)), wp_20, wp_costM (N + 1) fm_0 0 fm_M wp_M7 (20 * i + j) (by omega) _ _ _ (by decide) (by omega), Option.bind_some, if_pos (by decide), Option.bind_some, nI_1])
    N (q + 1) (by omega) (by omega)
theorem wp_whoseM (N : Nat) (hN : 60000 ≤ N) (i j : Nat) (hi : i ≤ 5) (hj : j ≤ 19) (q k : Nat) (hk : k ≤ 50000) (hqk : q + k ≤ 1000000) (x : Int32) : ∀ (fu s : Nat), s ≤ 4 → 4 - s < fu → fX12_whose_L50 N (nI i) (nI j) (nI q) (nI k) x fu fm_0 0 fm_M 0 0 (nI s) (nI s) = some (if x = 0 then 0 else if x = 1 then 0 else 4, fm_0, 0, fm_M) := by
  intro fu
  induction fu with
  | zero => intro s _ h; omega
  | succ fu ih =>
    intro s hs hf
    rw [fX12_whose_L50.eq_2]
    rcases Nat.lt_or_ge s 4 with h | h
    · rw [if_neg (show ¬ (4 : Int32) ≤ nI s from nI_ge (a := s) (b := 4) h (by decide)), wp_w64 N hN i j hi hj q k hk hqk, if_pos (by decide), if_pos (by decide)]
      unfold fX12_whose_J138
      rw [if_pos (by decide), Option.bind_some, nI_1]
      exact ih (s + 1) h (by omega)
    · have e : s = 4 := by omega
      subst e
      rw [if_pos (by decide)]
      by_cases x0 : x = 0
      · rw [if_pos x0, if_pos x0]
      · rw [if_neg x0, if_neg x0]
        by_cases x1 : x = 1
        · rw [if_pos x1, if_pos x1]
        · rw [if_neg x1, if_neg x1]; rfl
set_option maxRecDepth 10000 in
theorem p1_whose (N : Nat) (hN : 60000 ≤ N) (a b c d e : Int32) (o : Nat → Int64) : p1_t (fL_whose N fx_I fx_M a b c d e o) (fX12_whose N fm_I 0 fm_M a b c d e) := by
  unfold fL_whose fX11_whose fX12_whose
  rcases wp_num N a b with ⟨h1, h2⟩ | ⟨i, j, hi, hj, rfl, rfl, h1, h2⟩
  · rw [h1, h2]; exact ⟨_, _, rfl, rfl, rfl, wp_t1⟩
  · rw [h1, h2]
    simp only [wb_xb_r, Option.bind_some, wp_10, if_false]
    rcases wp_w01 N e 0 2 with ⟨k1, k2⟩ | ⟨k1, k2⟩
    · rw [k2]
      rcases wp_day N c with ⟨d1, d2⟩ | ⟨q, hq, rfl, d1, d2⟩
      · rw [d1]; exact ⟨_, _, rfl, rfl, rfl, wp_t1⟩
      · rw [d1, k1]; exact ⟨_, _, rfl, rfl, rfl, wp_t1⟩
    · rw [k2]
      simp only [Option.bind_some, wp_r1, wp_10, if_false]
      rcases wp_day N c with ⟨d1, d2⟩ | ⟨q, hq, rfl, d1, d2⟩
      · rw [d1, wp_nospan N c d d2]; exact ⟨_, _, rfl, rfl, rfl, wp_t1⟩
      · rw [d1, k1]
        simp only [Option.bind_some, wp_10, if_false]
        unfold fX11_whose_J29
        simp only [wp_n1, wb_xb_r]
        rcases wp_span N q hq d with ⟨s1, s2⟩ | ⟨k, hk, hqk, rfl, s1, s2⟩
        · rw [s1, s2]; exact ⟨_, _, rfl, rfl, rfl, wp_t2⟩
        · rw [s1, s2]
          simp only [Option.bind_some, wp_a1, wb_xb_r, wp_10, if_false]
          have hx : ∃ I' M', fX11_whose_L55 N (nI i) (nI j) (nI q) (nI k) e (nI (20 * i + j)) N fx_I fx_M 1000 0 0 0 = some (if e = 0 then 0 else if e = 1 then 0 else 4, I', M') := by
            obtain ⟨N, rfl⟩ : ∃ n, N = n + 1 := ⟨N - 1, by omega⟩
            rw [fX11_whose_L55.eq_2, if_neg (by decide)]
            simp only [Option.bind_some, wp_begin]
            obtain ⟨v, I', M', hg, h4⟩ := wp_goAll (N + 1) hN (wb_sh (wb_in fx_I 20 7 (wp_bI (wb_sh fx_I 20) (nI (20 * i + j)) 0 (nI q))) 9) (wb_sh (wb_in fx_M 17 1 (wb_sh fx_M 17)) 1) (wb_sh (wb_in fx_I 20 7 (wp_bI (wb_sh fx_I 20) (nI (20 * i + j)) 0 (nI q))) 13) (wb_sh (wb_in fx_M 17 1 (wb_sh fx_M 17)) 13) (fun j hj => by show fx_M 13 j = -1; simp [fx_M, hj]) (20 * i + j) (by omega) k q hk hq (wb_sh (wb_in fx_I 20 7 (wp_bI (wb_sh fx_I 20) (nI (20 * i + j)) 0 (nI q))) 20) (wb_sh (wb_in fx_M 17 1 (wb_sh fx_M 17)) 17) rfl rfl rfl rfl
            rw [hg]
            simp only [Option.bind_some]
            have e24 : (wb_in (wb_in fx_I 20 7 (wp_bI (wb_sh fx_I 20) (nI (20 * i + j)) 0 (nI q))) 20 7 I') 24 = 0 := by show I' 4 = 0; exact h4
            rw [e24, if_neg (by decide)]
            unfold fX11_whose_J121
            rw [e24, if_pos rfl, Option.bind_some, Option.bind_some]
            exact wp_whoseX (N + 1) hN (nI i) (nI j) q k (20 * i + j) (by omega) hk hq e N 1 _ _ (by omega) (by omega) (fun j hj => by show fx_M 13 j = -1; simp [fx_M, hj])
          have hm : fX12_whose_L50 N (nI i) (nI j) (nI q) (nI k) e N fm_0 0 fm_M 999 (-1) 0 0 = some (if e = 0 then 0 else if e = 1 then 0 else 4, fm_0, 0, fm_M) := by
            obtain ⟨N, rfl⟩ : ∃ n, N = n + 1 := ⟨N - 1, by omega⟩
            rw [fX12_whose_L50.eq_2, if_neg (by decide), wp_w64 (N + 1) hN i j hi hj q k hk hqk, if_pos (by decide), if_neg (by decide)]
            unfold fX12_whose_J138
            rw [if_neg (by decide), Option.bind_some]
            exact wp_whoseM (N + 1) hN i j hi hj q k hk hqk e N 1 (by omega) (by omega)
          obtain ⟨I', M', hx⟩ := hx
          rw [hx, hm]
          exact ⟨_, _, rfl, rfl, rfl, fun _ => rfl⟩
theorem wp_mixX (N : Nat) (hN : 7 < N) (I0 : Nat → Int32) (M0 : Nat → Nat → Int32) (I1 : Nat → Int32) (M1 : Nat → Nat → Int32) (hM : ∀ j, j < 2640 → M1 0 j = -1) (n : Nat) (hn : n < 120) (x : Int32) : fX3_isMixed N I0 M0 I1 M1 (nI n) x = some 0 := by
  unfold fX3_isMixed
  exact wp_lp (F := fun fu k => fX3_isMixed_L7 N I0 M0 I1 M1 (nI n) x fu 15 k) 7 _
    (fun fu => by show fX3_isMixed_L7 N I0 M0 I1 M1 (nI n) x (fu + 1) 15 (nI 7) = _; rw [fX3_isMixed_L7.eq_2, if_pos (by decide), if_neg (by decide)])
    (fun fu k hk => by
      show fX3_isMixed_L7 N I0 M0 I1 M1 (nI n) x (fu + 1) 15 (nI k) = _
      rw [fX3_isMixed_L7.eq_2, if_neg (show ¬ (7 : Int32) ≤ nI k from nI_ge (a := k) (b := 7) hk (by decide)), wp_degM N I1 M1 hM n k hn (by omega), Option.bind_some, if_pos rfl, Option.bind_some, nI_1])
    N 0 (Nat.zero_le _) (by omega)
theorem wp_mixM (N : Nat) (hN : 7 < N) (I : Nat → Int32) (L : Int64) (M : Nat → Nat → Int32) (hM : ∀ j, j < 2640 → M 7 j = -1) (n : Nat) (hn : n < 120) (x : Int32) : fX12_isMixed N I L M (nI n) x = some 0 := by
  unfold fX12_isMixed
  exact wp_lp (F := fun fu k => fX12_isMixed_L9 N I L M (nI n) x fu 15 1 k) 7 _
    (fun fu => by show fX12_isMixed_L9 N I L M (nI n) x (fu + 1) 15 1 (nI 7) = _; rw [fX12_isMixed_L9.eq_2, if_pos (by decide)]; unfold fX12_isMixed_J107; rw [if_neg (by decide), if_neg (by decide)])
    (fun fu k hk => by
      show fX12_isMixed_L9 N I L M (nI n) x (fu + 1) 15 1 (nI k) = _
      rw [fX12_isMixed_L9.eq_2, if_neg (show ¬ (7 : Int32) ≤ nI k from nI_ge (a := k) (b := 7) hk (by decide)), if_neg (by decide), wp_atM N I L M hM n k hn (by omega), Option.bind_some, if_pos rfl, Option.bind_some, nI_1])
    N 0 (Nat.zero_le _) (by omega)
set_option maxRecDepth 10000 in
theorem p1_mixed (N : Nat) (hN : 60000 ≤ N) (a b c d : Int32) (o : Nat → Int64) : p1_t (fL_mixed N fx_I fx_M a b c d o) (fX12_mixed N fm_I 0 fm_M a b c d) := by
  unfold fL_mixed fX11_mixed fX12_mixed
  rcases wp_num N a b with ⟨h1, h2⟩ | ⟨i, j, hi, hj, rfl, rfl, h1, h2⟩
  · rw [h1, h2]; exact ⟨_, _, rfl, rfl, rfl, wp_t1⟩
  · rw [h1, h2]
    simp only [wb_xb_r, Option.bind_some, wp_10, if_false]
    rcases wp_day N c with ⟨d1, d2⟩ | ⟨q, hq, rfl, d1, d2⟩
    · rw [d1, wp_nospan N c d d2]; exact ⟨_, _, rfl, rfl, rfl, wp_t1⟩
    · rw [d1]
      simp only [Option.bind_some, wp_n1, wb_xb_r]
      rcases wp_span N q hq d with ⟨s1, s2⟩ | ⟨k, hk, hqk, rfl, s1, s2⟩
      · rw [s1, s2]; exact ⟨_, _, rfl, rfl, rfl, wp_t2⟩
      · rw [s1, s2]
        simp only [Option.bind_some, wp_a1, wb_xb_r, wp_10, if_false]
        have hx : fX11_mixed_L29 N fx_I fx_M (nI i) (nI j) (nI q) (nI k) (nI (20 * i + j)) N 0 0 = some 0 :=
          wp_lp (F := fun fu m => fX11_mixed_L29 N fx_I fx_M (nI i) (nI j) (nI q) (nI k) (nI (20 * i + j)) fu 0 m) (k + 1) (some 0)
            (fun fu => by show fX11_mixed_L29 N fx_I fx_M (nI i) (nI j) (nI q) (nI k) (nI (20 * i + j)) (fu + 1) 0 (nI (k + 1)) = _; rw [fX11_mixed_L29.eq_2, if_pos (nI_lt (by omega) (by omega))])
            (fun fu m hm => by
              show fX11_mixed_L29 N fx_I fx_M (nI i) (nI j) (nI q) (nI k) (nI (20 * i + j)) (fu + 1) 0 (nI m) = _
              rw [fX11_mixed_L29.eq_2, if_neg (nI_nlt (by omega) (by omega)), wp_mixX N (by omega) _ _ _ _ wp_M13 (20 * i + j) (by omega), Option.bind_some, if_pos rfl, Option.bind_some, nI_1])
            N 0 (Nat.zero_le _) (by omega)
        have hm : fX12_mixed_L27 N (nI i) (nI j) (nI q) (nI k) N fm_0 0 fm_M 0 (nI q) = some (0, fm_0, 0, fm_M) :=
          wp_lp (F := fun fu m => fX12_mixed_L27 N (nI i) (nI j) (nI q) (nI k) fu fm_0 0 fm_M 0 m) (q + k + 1) (some (0, fm_0, 0, fm_M))
            (fun fu => by show fX12_mixed_L27 N (nI i) (nI j) (nI q) (nI k) (fu + 1) fm_0 0 fm_M 0 (nI (q + k + 1)) = _; rw [fX12_mixed_L27.eq_2, nI_add, if_pos (nI_lt (by omega) (by omega))])
            (fun fu m hm => by
              show fX12_mixed_L27 N (nI i) (nI j) (nI q) (nI k) (fu + 1) fm_0 0 fm_M 0 (nI m) = _
              rw [fX12_mixed_L27.eq_2, nI_add, if_neg (nI_nlt (by omega) (by omega)), wp_20, wp_mixM N (by omega) _ _ _ wp_M7 (20 * i + j) (by omega), Option.bind_some, if_pos rfl, Option.bind_some, nI_1])
            N q (by omega) (by omega)
        rw [hx, hm]
        exact ⟨_, _, rfl, rfl, rfl, fun _ => rfl⟩

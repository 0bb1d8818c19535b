/-! p1, pure: loops over the books -/
theorem wp_tellsX (N : Nat) (hN : 22 < N) (I : Nat → Int32) (M : Nat → Nat → Int32) (hM : ∀ j, j < 2640 → M 0 j = -1) (n : Nat) (hn : n < 120) : fX1_tellsSomething N I M (nI n) = some 0 := by
  unfold fX1_tellsSomething
  exact wp_lp (F := fun fu i => fX1_tellsSomething_L2 N I M (nI n) fu i) 22 (some 0)
    (fun fu => by show fX1_tellsSomething_L2 N I M (nI n) (fu + 1) (nI 22) = _; rw [fX1_tellsSomething_L2.eq_2, if_pos (by decide)])
    (fun fu k hk => by
      show fX1_tellsSomething_L2 N I M (nI n) (fu + 1) (nI k) = _
      rw [fX1_tellsSomething_L2.eq_2, if_neg (show ¬ (22 : Int32) ≤ nI k from nI_ge (a := k) (b := 22) hk (by decide)), wp_degM N I M hM n k hn (by omega), Option.bind_some, if_pos rfl, Option.bind_some, nI_1])
    N 0 (Nat.zero_le _) (by omega)
theorem wp_tellsM (N : Nat) (hN : 22 < N) (I : Nat → Int32) (L : Int64) (M : Nat → Nat → Int32) (hM : ∀ j, j < 2640 → M 7 j = -1) (n : Nat) (hn : n < 120) : fX12_tells N I L M (nI n) = some 0 := by
  unfold fX12_tells
  exact wp_lp (F := fun fu i => fX12_tells_L4 N I L M (nI n) fu 0 i) 22 (some 0)
    (fun fu => by show fX12_tells_L4 N I L M (nI n) (fu + 1) 0 (nI 22) = _; rw [fX12_tells_L4.eq_2, if_pos (by decide), if_pos (by decide)])
    (fun fu k hk => by
      show fX12_tells_L4 N I L M (nI n) (fu + 1) 0 (nI k) = _
      rw [fX12_tells_L4.eq_2, if_neg (show ¬ (22 : Int32) ≤ nI k from nI_ge (a := k) (b := 22) hk (by decide)), if_pos rfl, wp_atM N I L M hM n k hn (by omega), Option.bind_some, if_pos rfl, Option.bind_some, nI_1])
    N 0 (Nat.zero_le _) (by omega)
theorem wp_manyX (N : Nat) (hN : 120 < N) (I : Nat → Int32) (M : Nat → Nat → Int32) (hM : ∀ j, j < 2640 → M 0 j = -1) : fX1_howManyTell N I M = some 0 := by
  unfold fX1_howManyTell
  exact wp_lp (F := fun fu i => fX1_howManyTell_L4 N I M fu 0 i) 120 (some 0)
    (fun fu => by show fX1_howManyTell_L4 N I M (fu + 1) 0 (nI 120) = _; rw [fX1_howManyTell_L4.eq_2, if_pos (by decide)])
    (fun fu k hk => by
      show fX1_howManyTell_L4 N I M (fu + 1) 0 (nI k) = _
      rw [fX1_howManyTell_L4.eq_2, if_neg (show ¬ (120 : Int32) ≤ nI k from nI_ge (a := k) (b := 120) hk (by decide)), wp_tellsX N (by omega) I M hM k hk, Option.bind_some, if_pos rfl, Option.bind_some, nI_1])
    N 0 (Nat.zero_le _) (by omega)
theorem wp_bookX (N : Nat) (hN : 22 < N) (I : Nat → Int32) (M : Nat → Nat → Int32) (hM : ∀ j, j < 2640 → M 0 j = -1) (b : Nat) (hb : b < 6) : fX1_bookTells N I M (nI b) = some 0 := by
  unfold fX1_bookTells
  exact wp_lp (F := fun fu i => fX1_bookTells_L2 N I M (nI b) fu i) 20 (some 0)
    (fun fu => by show fX1_bookTells_L2 N I M (nI b) (fu + 1) (nI 20) = _; rw [fX1_bookTells_L2.eq_2, if_pos (by decide)])
    (fun fu k hk => by
      show fX1_bookTells_L2 N I M (nI b) (fu + 1) (nI k) = _
      rw [fX1_bookTells_L2.eq_2, if_neg (show ¬ (20 : Int32) ≤ nI k from nI_ge (a := k) (b := 20) hk (by decide)), wp_20, wp_tellsX N hN I M hM (20 * b + k) (by omega), Option.bind_some, if_pos rfl, Option.bind_some, nI_1])
    N 0 (Nat.zero_le _) (by omega)
theorem wp_bookM (N : Nat) (hN : 22 < N) (I : Nat → Int32) (L : Int64) (M : Nat → Nat → Int32) (hM : ∀ j, j < 2640 → M 7 j = -1) (b : Nat) (hb : b < 6) : fX12_bookTells N I L M (nI b) = some 0 := by
  unfold fX12_bookTells
  exact wp_lp (F := fun fu i => fX12_bookTells_L4 N I L M (nI b) fu 0 i) 20 (some 0)
    (fun fu => by show fX12_bookTells_L4 N I L M (nI b) (fu + 1) 0 (nI 20) = _; rw [fX12_bookTells_L4.eq_2, if_pos (by decide), if_pos (by decide)])
    (fun fu k hk => by
      show fX12_bookTells_L4 N I L M (nI b) (fu + 1) 0 (nI k) = _
      rw [fX12_bookTells_L4.eq_2, if_neg (show ¬ (20 : Int32) ≤ nI k from nI_ge (a := k) (b := 20) hk (by decide)), if_pos rfl, wp_20, wp_tellsM N hN I L M hM (20 * b + k) (by omega), Option.bind_some, if_pos rfl, Option.bind_some, nI_1])
    N 0 (Nat.zero_le _) (by omega)
/-- the price of two books that tell nothing -/
theorem wp_priceX16 (N : Nat) (I0 : Nat → Int32) (M0 : Nat → Nat → Int32) (I1 : Nat → Int32) (M1 : Nat → Nat → Int32) (hM : ∀ j, j < 2640 → M1 0 j = -1) (a b k : Nat) (ha : a < 6) (hb : b < 6) (hk : k < 20) (g : Int32 → Int32 → Option Int32) (hN : 22 < N) : fX10_priceOf_L16 N I0 M0 I1 M1 (nI a) (nI b) (nI k) g N 0 0 = g 0 (nI (k + 1)) := by
  exact wp_lp (F := fun fu i => fX10_priceOf_L16 N I0 M0 I1 M1 (nI a) (nI b) (nI k) g fu 0 i) 22 (g 0 (nI (k + 1)))
    (fun fu => by show fX10_priceOf_L16 N I0 M0 I1 M1 (nI a) (nI b) (nI k) g (fu + 1) 0 (nI 22) = _; rw [fX10_priceOf_L16.eq_2, if_pos (by decide), Option.bind_some, nI_1])
    (fun fu e he => by
      show fX10_priceOf_L16 N I0 M0 I1 M1 (nI a) (nI b) (nI k) g (fu + 1) 0 (nI e) = _
      rw [fX10_priceOf_L16.eq_2, if_neg (show ¬ (22 : Int32) ≤ nI e from nI_ge (a := e) (b := 22) he (by decide)), wp_20, wp_20, wp_degM N I1 M1 hM (20 * a + k) e (by omega) he, wp_degM N I1 M1 hM (20 * b + k) e (by omega) he, Option.bind_some, Option.bind_some]
      unfold fX10_priceOfEntry
      rw [if_pos rfl, Option.bind_some, Option.bind_some, Option.bind_some, nI_1]
      rfl)
    N 0 (Nat.zero_le _) (by omega)
theorem wp_priceX (N : Nat) (I0 : Nat → Int32) (M0 : Nat → Nat → Int32) (I1 : Nat → Int32) (M1 : Nat → Nat → Int32) (hM : ∀ j, j < 2640 → M1 0 j = -1) (a b : Nat) (ha : a < 6) (hb : b < 6) (hN : 22 < N) : fX10_priceOf N I0 M0 I1 M1 (nI a) (nI b) = some 0 := by
  unfold fX10_priceOf
  exact wp_lp (F := fun fu i => fX10_priceOf_L6 N I0 M0 I1 M1 (nI a) (nI b) fu 0 i) 20 (some 0)
    (fun fu => by show fX10_priceOf_L6 N I0 M0 I1 M1 (nI a) (nI b) (fu + 1) 0 (nI 20) = _; rw [fX10_priceOf_L6.eq_2, if_pos (by decide)])
    (fun fu k hk => by
      show fX10_priceOf_L6 N I0 M0 I1 M1 (nI a) (nI b) (fu + 1) 0 (nI k) = _
      rw [fX10_priceOf_L6.eq_2, if_neg (show ¬ (20 : Int32) ≤ nI k from nI_ge (a := k) (b := 20) hk (by decide)), wp_priceX16 N I0 M0 I1 M1 hM a b k ha hb hk _ hN])
    N 0 (Nat.zero_le _) (by omega)
theorem wp_priceM15 (N : Nat) (I : Nat → Int32) (L : Int64) (M : Nat → Nat → Int32) (hM : ∀ j, j < 2640 → M 7 j = -1) (a b k : Nat) (ha : a < 6) (hb : b < 6) (hk : k < 20) (g : Int32 → Int32 → Option Int32) (hN : 22 < N) : fX12_priceAll_L15 N I L M (nI a) (nI b) (nI k) g N 0 0 = g 0 (nI (k + 1)) := by
  exact wp_lp (F := fun fu i => fX12_priceAll_L15 N I L M (nI a) (nI b) (nI k) g fu 0 i) 22 (g 0 (nI (k + 1)))
    (fun fu => by show fX12_priceAll_L15 N I L M (nI a) (nI b) (nI k) g (fu + 1) 0 (nI 22) = _; rw [fX12_priceAll_L15.eq_2, if_pos (by decide), Option.bind_some, nI_1])
    (fun fu e he => by
      show fX12_priceAll_L15 N I L M (nI a) (nI b) (nI k) g (fu + 1) 0 (nI e) = _
      rw [fX12_priceAll_L15.eq_2, if_neg (show ¬ (22 : Int32) ≤ nI e from nI_ge (a := e) (b := 22) he (by decide)), wp_20, wp_20, wp_atM N I L M hM (20 * a + k) e (by omega) he, wp_atM N I L M hM (20 * b + k) e (by omega) he, Option.bind_some, Option.bind_some]
      unfold fX12_priceOf
      rw [if_pos rfl, Option.bind_some, Option.bind_some, Option.bind_some, nI_1]
      rfl)
    N 0 (Nat.zero_le _) (by omega)
theorem wp_priceM (N : Nat) (I : Nat → Int32) (L : Int64) (M : Nat → Nat → Int32) (hM : ∀ j, j < 2640 → M 7 j = -1) (a b : Nat) (ha : a < 6) (hb : b < 6) (hN : 22 < N) : fX12_priceAll N I L M (nI a) (nI b) = some 0 := by
  unfold fX12_priceAll
  exact wp_lp (F := fun fu i => fX12_priceAll_L5 N I L M (nI a) (nI b) fu 0 i) 20 (some 0)
    (fun fu => by show fX12_priceAll_L5 N I L M (nI a) (nI b) (fu + 1) 0 (nI 20) = _; rw [fX12_priceAll_L5.eq_2, if_pos (by decide)])
    (fun fu k hk => by
      show fX12_priceAll_L5 N I L M (nI a) (nI b) (fu + 1) 0 (nI k) = _
      rw [fX12_priceAll_L5.eq_2, if_neg (show ¬ (20 : Int32) ≤ nI k from nI_ge (a := k) (b := 20) hk (by decide)), wp_priceM15 N I L M hM a b k ha hb hk _ hN])
    N 0 (Nat.zero_le _) (by omega)
set_option maxRecDepth 10000 in
theorem p1_price (N : Nat) (hN : 22 < N) (a b : Int32) (o : Nat → Int64) : p1_t (fL_price N fx_I fx_M a b o) (fX12_price N fm_I 0 fm_M a b) := by
  unfold fL_price fX11_price fX12_price
  rw [wp_u0]
  simp only [Option.bind_some]
  rcases wp_bk N a with ⟨k1, k2⟩ | ⟨i, hi, rfl, k1, k2⟩
  · rw [k1, k2]; exact ⟨_, _, rfl, rfl, rfl, wp_t1⟩
  · rw [k1, k2]
    simp only [Option.bind_some, wp_10, if_false]
    rcases wp_bk N b with ⟨k1, k2⟩ | ⟨j, hj, rfl, k1, k2⟩
    · rw [k1, k2]; exact ⟨_, _, rfl, rfl, rfl, wp_t1⟩
    · rw [k1, k2]
      simp only [Option.bind_some, wp_10, if_false]
      unfold fX11_price_J19
      rw [wp_priceX N _ _ _ _ wp_M13 i j (by omega) (by omega) hN, wp_priceM N _ _ _ wp_M7 i j (by omega) (by omega) hN]
      exact ⟨_, _, rfl, rfl, rfl, fun _ => rfl⟩
theorem wp_440 (a k : Nat) : (440 : Int32) * nI a + nI k = nI (440 * a + k) := by rw [show (440 : Int32) = nI 440 from rfl, pk_mul, nI_add]
set_option maxRecDepth 10000 in
theorem p1_handed (N : Nat) (hN : 440 < N) (a b c : Int32) (o : Nat → Int64) : p1_t (fL_handed N fx_I fx_M a b c o) (fX12_handed N fm_I 0 fm_M a b c) := by
  unfold fL_handed fX11_handed fX12_handed
  rw [wp_u0]
  simp only [Option.bind_some]
  rcases wp_bk N a with ⟨k1, k2⟩ | ⟨i, hi, rfl, k1, k2⟩
  · rw [k1, k2]; exact ⟨_, _, rfl, rfl, rfl, wp_t1⟩
  · rw [k1, k2]
    simp only [Option.bind_some, wp_10, if_false]
    rcases wp_bk N b with ⟨k1, k2⟩ | ⟨j, hj, rfl, k1, k2⟩
    · rw [k1, k2]; exact ⟨_, _, rfl, rfl, rfl, wp_t1⟩
    · rw [k1, k2]
      simp only [Option.bind_some, wp_10, if_false]
      rcases wp_bk N c with ⟨k1, k2⟩ | ⟨l, hl, rfl, k1, k2⟩
      · rw [k1, k2]; exact ⟨_, _, rfl, rfl, rfl, wp_t1⟩
      · rw [k1, k2]
        simp only [Option.bind_some, wp_10, if_false]
        unfold fX11_handed_J26 fX1_howManyHanded
        have hx : fX1_howManyHanded_L6 N (wb_sh fx_I 13) (wb_sh fx_M 13) (nI i) (nI j) (nI l) N 0 0 = some 0 :=
          wp_lp (F := fun fu k => fX1_howManyHanded_L6 N (wb_sh fx_I 13) (wb_sh fx_M 13) (nI i) (nI j) (nI l) fu 0 k) 440 (some 0)
            (fun fu => by show fX1_howManyHanded_L6 N (wb_sh fx_I 13) (wb_sh fx_M 13) (nI i) (nI j) (nI l) (fu + 1) 0 (nI 440) = _; rw [fX1_howManyHanded_L6.eq_2, if_pos (by decide)])
            (fun fu k hk => by
              show fX1_howManyHanded_L6 N (wb_sh fx_I 13) (wb_sh fx_M 13) (nI i) (nI j) (nI l) (fu + 1) 0 (nI k) = _
              rw [fX1_howManyHanded_L6.eq_2, if_neg (show ¬ (440 : Int32) ≤ nI k from nI_ge (a := k) (b := 440) hk (by decide)), wp_440, wp_440, wp_440, if_neg (wp_in (k := 440 * i + k) (n := 2640) (by omega) (by decide)), Option.bind_some, if_neg (wp_in (k := 440 * j + k) (n := 2640) (by omega) (by decide)), Option.bind_some, if_neg (wp_in (k := 440 * l + k) (n := 2640) (by omega) (by decide)), Option.bind_some, nI_clamp (n := 440 * i + k) (by omega), wp_M13 _ (by omega), if_pos rfl, Option.bind_some, nI_1])
            N 0 (Nat.zero_le _) (by omega)
        have hm : fX12_handed_L37 N (nI i) (nI j) (nI l) N fm_0 0 fm_M 0 0 = some (0, fm_0, 0, fm_M) :=
          wp_lp (F := fun fu k => fX12_handed_L37 N (nI i) (nI j) (nI l) fu fm_0 0 fm_M 0 k) 440 (some (0, fm_0, 0, fm_M))
            (fun fu => by show fX12_handed_L37 N (nI i) (nI j) (nI l) (fu + 1) fm_0 0 fm_M 0 (nI 440) = _; rw [fX12_handed_L37.eq_2, if_pos (by decide)])
            (fun fu k hk => by
              show fX12_handed_L37 N (nI i) (nI j) (nI l) (fu + 1) fm_0 0 fm_M 0 (nI k) = _
              rw [fX12_handed_L37.eq_2, if_neg (show ¬ (440 : Int32) ≤ nI k from nI_ge (a := k) (b := 440) hk (by decide)), wp_440, wp_440, wp_440, if_neg (wp_in (k := 440 * i + k) (n := 2640) (by omega) (by decide)), Option.bind_some, if_neg (wp_in (k := 440 * j + k) (n := 2640) (by omega) (by decide)), Option.bind_some, if_neg (wp_in (k := 440 * l + k) (n := 2640) (by omega) (by decide)), Option.bind_some, nI_clamp (n := 440 * i + k) (by omega), wp_M7 _ (by omega), if_pos rfl, Option.bind_some, nI_1])
            N 0 (Nat.zero_le _) (by omega)
        rw [hx, hm]
        exact ⟨_, _, rfl, rfl, rfl, fun _ => rfl⟩
/-! the lives and the fates -/
theorem wp_rows11 (N : Nat) (hN : 20 < N) : fX7_setRows_11 N (wb_sh fx_I 43) (wb_sh fx_M 28) = some (0, wb_sh fx_I 43, wb_sh fx_M 28) := by
  unfold fX7_setRows_11
  exact wp_lp (F := fun fu k => fX7_setRows_11_L4 N fu (wb_sh fx_I 43) (wb_sh fx_M 28) 0 k) 20 (some (0, wb_sh fx_I 43, wb_sh fx_M 28))
    (fun fu => by show fX7_setRows_11_L4 N (fu + 1) (wb_sh fx_I 43) (wb_sh fx_M 28) 0 (nI 20) = _; rw [fX7_setRows_11_L4.eq_2, if_pos (by decide)])
    (fun fu k hk => by
      have e : (wb_sh fx_M 28) 0 k = -1 := by show fx_M 28 k = -1; simp [fx_M, hk]
      show fX7_setRows_11_L4 N (fu + 1) (wb_sh fx_I 43) (wb_sh fx_M 28) 0 (nI k) = _
      rw [fX7_setRows_11_L4.eq_2, if_neg (show ¬ (20 : Int32) ≤ nI k from nI_ge (a := k) (b := 20) hk (by decide)), if_neg (wp_in (k := k) (n := 20) hk (by decide)), nI_clamp (by omega), e, if_pos rfl, Option.bind_some, nI_1])
    N 0 (Nat.zero_le _) (by omega)
theorem wp_rows13 (N : Nat) (hN : 20 < N) : fX7_setRows_13 N (wb_sh fx_I 43) (wb_sh fx_M 28) = some (0, wb_sh fx_I 43, wb_sh fx_M 28) := by
  unfold fX7_setRows_13
  exact wp_lp (F := fun fu k => fX7_setRows_13_L4 N fu (wb_sh fx_I 43) (wb_sh fx_M 28) 0 k) 20 (some (0, wb_sh fx_I 43, wb_sh fx_M 28))
    (fun fu => by show fX7_setRows_13_L4 N (fu + 1) (wb_sh fx_I 43) (wb_sh fx_M 28) 0 (nI 20) = _; rw [fX7_setRows_13_L4.eq_2, if_pos (by decide)])
    (fun fu k hk => by
      have e : (wb_sh fx_M 28) 2 k = -1 := by show fx_M 30 k = -1; simp [fx_M, hk]
      show fX7_setRows_13_L4 N (fu + 1) (wb_sh fx_I 43) (wb_sh fx_M 28) 0 (nI k) = _
      rw [fX7_setRows_13_L4.eq_2, if_neg (show ¬ (20 : Int32) ≤ nI k from nI_ge (a := k) (b := 20) hk (by decide)), if_neg (wp_in (k := k) (n := 20) hk (by decide)), nI_clamp (by omega), e, if_pos rfl, Option.bind_some, nI_1])
    N 0 (Nat.zero_le _) (by omega)
theorem wp_hitsX (N : Nat) (hN : 20 < N) (x : Int32) : fX7_howManyHits N (wb_sh fx_I 43) (wb_sh fx_M 28) x = some (0, wb_sh fx_I 43, wb_sh fx_M 28) := by
  obtain ⟨N, rfl⟩ : ∃ n, N = n + 1 := ⟨N - 1, by omega⟩
  unfold fX7_howManyHits
  rw [wp_rows11 (N + 1) hN, Option.bind_some, Option.bind_some, fX7_howManyHits_L14.eq_2, if_pos (by exact Int32.le_refl 0)]
theorem wp_lotX (N : Nat) (hN : 20 < N) (I1 : Nat → Int32) (M1 : Nat → Nat → Int32) : fX7_howManyToldByLot N (wb_sh fx_I 43) (wb_sh fx_M 28) I1 M1 = some (0, wb_sh fx_I 43, wb_sh fx_M 28) := by
  obtain ⟨N, rfl⟩ : ∃ n, N = n + 1 := ⟨N - 1, by omega⟩
  unfold fX7_howManyToldByLot
  rw [wp_rows13 (N + 1) hN, Option.bind_some, Option.bind_some, fX7_howManyToldByLot_L14.eq_2, if_pos (by exact Int32.le_refl 0)]
theorem wp_ways (N : Nat) (hN : 2304 < N) (I : Nat → Int32) (M : Nat → Nat → Int32) : ∃ M', fX7_waysToHit N I M 0 0 = some (1, I, M') := by
  obtain ⟨N, rfl⟩ : ∃ n, N = n + 2 := ⟨N - 2, by omega⟩
  unfold fX7_waysToHit
  rw [Option.bind_some, wp_fill (N + 2) 2304 _ _ (by decide) hN, Option.bind_some, Option.bind_some, if_neg (by decide), Option.bind_some, fX7_waysToHit_L24.eq_2, if_pos (by decide), fX7_waysToHit_L49.eq_2, if_neg (by decide), if_neg (by decide), Option.bind_some, Option.bind_some, fX7_waysToHit_L49.eq_2, if_pos (by decide)]
  exact ⟨_, rfl⟩
theorem wp_chanceL (N : Nat) (hN : 2304 < N) (x : Int32) : ∃ M', fX7_chanceOfLives N (wb_sh fx_I 43) (wb_sh fx_M 28) x = some (1, wb_sh fx_I 43, M') := by
  obtain ⟨M', h⟩ := wp_ways N hN (wb_sh fx_I 43) (wb_sh fx_M 28)
  refine ⟨M', ?_⟩
  unfold fX7_chanceOfLives
  rw [wp_rows11 N (by omega), Option.bind_some, Option.bind_some, if_pos (by decide)]
  obtain ⟨N, rfl⟩ : ∃ n, N = n + 1 := ⟨N - 1, by omega⟩
  rw [fX7_chanceOfLives_L19.eq_2, if_pos (by exact Int32.le_refl 0), wp_hitsX (N + 1) (by omega), Option.bind_some]
  show ((fX7_waysToHit (N + 1) (wb_sh fx_I 43) (wb_sh fx_M 28) 0 0).bind fun r4 => some (r4.1, r4.2.1, r4.2.2)) = _
  rw [h]; rfl
theorem wp_chanceF (N : Nat) (hN : 2304 < N) (I1 : Nat → Int32) (M1 : Nat → Nat → Int32) : ∃ M', fX7_chanceOfFates N (wb_sh fx_I 43) (wb_sh fx_M 28) I1 M1 = some (1, wb_sh fx_I 43, M') := by
  obtain ⟨M', h⟩ := wp_ways N hN (wb_sh fx_I 43) (wb_sh fx_M 28)
  refine ⟨M', ?_⟩
  unfold fX7_chanceOfFates
  rw [wp_rows13 N (by omega), Option.bind_some, Option.bind_some, if_pos (by decide)]
  obtain ⟨N, rfl⟩ : ∃ n, N = n + 1 := ⟨N - 1, by omega⟩
  rw [fX7_chanceOfFates_L19.eq_2, if_pos (by exact Int32.le_refl 0), wp_lotX (N + 1) (by omega), Option.bind_some]
  show ((fX7_waysToHit (N + 1) (wb_sh fx_I 43) (wb_sh fx_M 28) 0 0).bind fun r4 => some (r4.1, r4.2.1, r4.2.2)) = _
  rw [h]; rfl
def fm_19 : Nat → Int32 := upd fm_0 19 0
theorem wp_hb (N : Nat) (hN : 0 < N) (x : Int32) : fX12_hitsBy N fm_19 0 fm_M x = some 0 := by
  obtain ⟨N, rfl⟩ : ∃ n, N = n + 1 := ⟨N - 1, by omega⟩
  unfold fX12_hitsBy
  rw [fX12_hitsBy_L4.eq_2, if_pos (by exact Int32.le_refl 0)]
theorem wp_tu (N : Nat) (hN : 0 < N) : fX12_turns N fm_19 0 fm_M = some (0, fm_19, 0, fm_M) := by
  obtain ⟨N, rfl⟩ : ∃ n, N = n + 1 := ⟨N - 1, by omega⟩
  unfold fX12_turns
  rw [Option.bind_some, fX12_turns_L7.eq_2, if_pos (by decide)]
  rfl
theorem wp_asks133 (N : Nat) (hN : 20 < N) (w x : Int32) (hw : w = 0 ∨ w = 1) : fX12_asks_133 N fm_0 0 fm_M w x = some (w, fm_19, 0, fm_M) := by
  unfold fX12_asks_133
  rw [Option.bind_some]
  exact wp_lp (F := fun fu k => fX12_asks_133_L8 N w x fu fm_19 0 fm_M k) 20 (some (w, fm_19, 0, fm_M))
    (fun fu => by
      show fX12_asks_133_L8 N w x (fu + 1) fm_19 0 fm_M (nI 20) = _
      rw [fX12_asks_133_L8.eq_2, if_pos (by decide), wp_hb N (by omega), Option.bind_some]
      rcases hw with q | q
      · subst q; rfl
      · subst q
        obtain ⟨N, rfl⟩ : ∃ n, N = n + 2 := ⟨N - 2, by omega⟩
        rw [if_neg (by decide), if_pos (by decide), fX12_asks_133_L97.eq_2, if_neg (by decide), wp_hb (N + 2) (by omega), Option.bind_some, if_neg (by decide), Option.bind_some, wp_tu (N + 2) (by omega), Option.bind_some, Option.bind_some, fX12_asks_133_L97.eq_2, if_pos rfl]
        rfl)
    (fun fu k hk => by
      have e : fm_M 32 k = -1 := by simp [fm_M, hk]
      show fX12_asks_133_L8 N w x (fu + 1) fm_19 0 fm_M (nI k) = _
      rw [fX12_asks_133_L8.eq_2, if_neg (show ¬ (20 : Int32) ≤ nI k from nI_ge (a := k) (b := 20) hk (by decide)), if_neg (wp_in (k := k) (n := 20) hk (by decide)), nI_clamp (by omega), e, if_pos rfl, Option.bind_some, nI_1])
    N 0 (Nat.zero_le _) (by omega)
theorem wp_asks135 (N : Nat) (hN : 20 < N) (w x : Int32) (hw : w = 0 ∨ w = 1) : fX12_asks_135 N fm_0 0 fm_M w x = some (w, fm_19, 0, fm_M) := by
  unfold fX12_asks_135
  rw [Option.bind_some]
  exact wp_lp (F := fun fu k => fX12_asks_135_L8 N w x fu fm_19 0 fm_M k) 20 (some (w, fm_19, 0, fm_M))
    (fun fu => by
      show fX12_asks_135_L8 N w x (fu + 1) fm_19 0 fm_M (nI 20) = _
      rw [fX12_asks_135_L8.eq_2, if_pos (by decide), wp_hb N (by omega), Option.bind_some]
      rcases hw with q | q
      · subst q; rfl
      · subst q
        obtain ⟨N, rfl⟩ : ∃ n, N = n + 2 := ⟨N - 2, by omega⟩
        rw [if_neg (by decide), if_pos (by decide), fX12_asks_135_L97.eq_2, if_neg (by decide), wp_hb (N + 2) (by omega), Option.bind_some, if_neg (by decide), Option.bind_some, wp_tu (N + 2) (by omega), Option.bind_some, Option.bind_some, fX12_asks_135_L97.eq_2, if_pos rfl]
        rfl)
    (fun fu k hk => by
      have e : fm_M 34 k = -1 := by simp [fm_M, hk]
      show fX12_asks_135_L8 N w x (fu + 1) fm_19 0 fm_M (nI k) = _
      rw [fX12_asks_135_L8.eq_2, if_neg (show ¬ (20 : Int32) ≤ nI k from nI_ge (a := k) (b := 20) hk (by decide)), if_neg (wp_in (k := k) (n := 20) hk (by decide)), nI_clamp (by omega), e, if_pos rfl, Option.bind_some, nI_1])
    N 0 (Nat.zero_le _) (by omega)
set_option maxRecDepth 10000 in
theorem p1_fates (N : Nat) (hN : 2304 < N) (a : Int32) (o : Nat → Int64) : p1_t (fL_fates N fx_I fx_M a o) (fX12_fates N fm_I 0 fm_M a) := by
  unfold fL_fates fX11_fates fX12_fates
  rw [wp_u0]
  simp only [Option.bind_some]
  rcases wp_wi N a 1 (by decide) with ⟨k1, k2⟩ | ⟨e, he, hc, k1, k2⟩
  · have k1 : fX11_within N a 0 1 = some 0 := k1
    obtain ⟨n0, n1⟩ := wp_one0 N k1
    rw [k1]
    simp only [n0, n1, if_false]
    exact ⟨_, _, rfl, rfl, rfl, wp_t1⟩
  · have k1 : fX11_within N a 0 1 = some 1 := k1
    rw [k1]
    unfold fX12_fates_J15 fX12_fates_J20
    simp only [Option.bind_some, wp_n1, wb_xb_r, wp_r1, wp_10, if_false]
    rw [wp_asks135 N (by omega) a (-1) (wp_one he hc), wp_lotX N (by omega)]
    obtain ⟨M', hM'⟩ := wp_chanceF N hN (wb_sh fx_I 13) (wb_sh fx_M 13)
    rw [hM']
    rcases wp_one he hc with q | q
    · subst q; exact ⟨_, _, rfl, rfl, rfl, fun _ => rfl⟩
    · subst q; exact ⟨_, _, rfl, rfl, rfl, fun _ => rfl⟩
set_option maxRecDepth 10000 in
theorem p1_hits (N : Nat) (hN : 2304 < N) (a b : Int32) (o : Nat → Int64) : p1_t (fL_hits N fx_I fx_M a b o) (fX12_hits N fm_I 0 fm_M a b) := by
  unfold fL_hits fX11_hits fX12_hits
  rw [wp_u0]
  simp only [Option.bind_some]
  rcases wp_wi N a 1 (by decide) with ⟨k1, k2⟩ | ⟨e, he, hc, k1, k2⟩
  · have k1 : fX11_within N a 0 1 = some 0 := k1
    obtain ⟨n0, n1⟩ := wp_one0 N k1
    rw [k1]
    simp only [n0, n1, if_false]
    exact ⟨_, _, rfl, rfl, rfl, wp_t1⟩
  · have k1 : fX11_within N a 0 1 = some 1 := k1
    rw [k1]
    simp only [Option.bind_some, wp_10, if_false]
    unfold fX12_hits_J15
    rcases wp_w01 N b 0 120 with ⟨k1, k2⟩ | ⟨k1, k2⟩
    · rw [k1, k2]
      rcases wp_one he hc with q | q
      · subst q; exact ⟨_, _, rfl, rfl, rfl, wp_t1⟩
      · subst q; exact ⟨_, _, rfl, rfl, rfl, wp_t1⟩
    · rw [k1, k2]
      unfold fX12_hits_J30 fX11_hits_J24
      simp only [Option.bind_some, wp_n1, wb_xb_r, wp_r1, wp_10, if_false]
      rw [wp_asks133 N (by omega) a b (wp_one he hc), wp_hitsX N (by omega)]
      obtain ⟨M', hM'⟩ := wp_chanceL N hN b
      rw [hM']
      rcases wp_one he hc with q | q
      · subst q; exact ⟨_, _, rfl, rfl, rfl, fun _ => rfl⟩
      · subst q; exact ⟨_, _, rfl, rfl, rfl, fun _ => rfl⟩

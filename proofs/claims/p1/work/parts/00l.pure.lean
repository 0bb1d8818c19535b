/-! p1, pure: errors, births -/
def p1_b (X : Option P1X) (Y : Option P1M) : Bool := match X, Y with
  | some r1, some r3 => decide (r3.2.1 0 = r1.1) && (decide (¬ r1.1 = 0) || decide (r1.2.2.2 0 = r3.1.toInt64))
  | _, _ => false
theorem p1_bt {X : Option P1X} {Y : Option P1M} (h : p1_b X Y = true) : p1_t X Y := by
  match X, Y, h with
  | some r1, some r3, h =>
    simp only [p1_b, Bool.and_eq_true, Bool.or_eq_true, decide_eq_true_eq] at h
    exact ⟨r1, r3, rfl, rfl, h.1, fun h0 => h.2.elim (fun q => absurd h0 q) id⟩
def wp_fS (M0 : Nat → Nat → Int32) (k : Nat) : Nat → Nat → Int32 := fun a j => if a = 0 ∧ j < k then -1 else M0 a j
theorem wp_umS (M0 : Nat → Nat → Int32) (k : Nat) : wb_um (wp_fS M0 k) 0 k (-1) = wp_fS M0 (k + 1) := by
  funext a j
  unfold wb_um wp_fS upd
  by_cases ha : a = 0
  · subst ha
    by_cases hj : j = k
    · subst hj; simp
    · have h : (j < k + 1) = (j < k) := by apply propext; omega
      simp [hj, h]
  · simp [ha]
theorem wp_fS0 (M0 : Nat → Nat → Int32) : wp_fS M0 0 = M0 := by
  funext a j
  simp [wp_fS]
theorem wp_share (N : Nat) (hN : 7 < N) (I0 : Nat → Int32) (M0 : Nat → Nat → Int32) (I1 : Nat → Int32) (M1 : Nat → Nat → Int32) (I2 : Nat → Int32) (M2 : Nat → Nat → Int32) (hM : ∀ j, j < 2640 → M2 0 j = -1) (n : Nat) (hn : n < 120) (x : Int32) : fX3_setSharers N I0 M0 I1 M1 I2 M2 (nI n) x = some (I0, wp_fS M0 7) := by
  unfold fX3_setSharers
  have h := wp_loopS (F := fun fu M k => fX3_setSharers_L3 N I1 M1 I2 M2 (nI n) x fu I0 M k) 7 (wp_fS M0) (I0, wp_fS M0 7)
    (fun fu _ => by show fX3_setSharers_L3 N I1 M1 I2 M2 (nI n) x (fu + 1) I0 _ (nI 7) = _; rw [fX3_setSharers_L3.eq_2, if_pos (by decide)])
    (fun fu k hk => by
      show fX3_setSharers_L3 N I1 M1 I2 M2 (nI n) x (fu + 1) I0 _ (nI k) = _
      rw [fX3_setSharers_L3.eq_2, if_neg (show ¬ (7 : Int32) ≤ nI k from nI_ge (a := k) (b := 7) hk (by decide)), wp_degM N I2 M2 hM n k hn (by omega), Option.bind_some, if_pos rfl]
      unfold fX3_setSharers_J39
      rw [if_pos (by decide), if_neg (wp_in (k := k) (n := 7) hk (by decide)), Option.bind_some, Option.bind_some, nI_clamp (by omega), wp_umS, nI_1])
    N 0 (Nat.zero_le _) (by omega)
  rw [wp_fS0] at h
  exact h
theorem wp_e340 (N : Nat) (a b d x : Int32) (g51 : (Nat → Int32) → Int64 → (Nat → Nat → Int32) → Int32 → Option (Int32 × (Nat → Int32) × Int64 × (Nat → Nat → Int32))) (g90 : (Nat → Int32) → Int64 → (Nat → Nat → Int32) → Int32 → Int32 → Option (Int32 × (Nat → Int32) × Int64 × (Nat → Nat → Int32))) : fX12_errors_L340 (N + 3) a b d x g51 g90 (N + 3) fm_0 0 fm_M 1 2 = some (-1, fm_0, 0, fm_M) := by
  rw [fX12_errors_L340.eq_2, if_neg (by decide), if_neg (by decide), if_neg (by decide), if_pos (by decide), Option.bind_some, fX12_errors_L340.eq_2, if_neg (by decide), if_neg (by decide), if_neg (by decide), if_pos (by decide), Option.bind_some, fX12_errors_L340.eq_2, if_pos (by decide), if_neg (by decide), if_pos (by decide)]
theorem wp_e90 (N : Nat) (hN : 7 < N) (i j : Nat) (hi : i ≤ 5) (hj : j ≤ 19) (d : Int32) (e : Nat) (he : e ≤ 10) (g51 : (Nat → Int32) → Int64 → (Nat → Nat → Int32) → Int32 → Option (Int32 × (Nat → Int32) × Int64 × (Nat → Nat → Int32))) : fX12_errors_L90 N (nI i) (nI j) d (nI e) g51 N fm_0 0 fm_M 0 0 = some (if e = 1 then -1 else 0, fm_0, 0, fm_M) :=
  wp_lp (F := fun fu k => fX12_errors_L90 N (nI i) (nI j) d (nI e) g51 fu fm_0 0 fm_M 0 k) 7 (some (if e = 1 then -1 else 0, fm_0, 0, fm_M))
    (fun fu => by
      show fX12_errors_L90 N (nI i) (nI j) d (nI e) g51 (fu + 1) fm_0 0 fm_M 0 (nI 7) = _
      rw [fX12_errors_L90.eq_2, if_pos (by decide)]
      obtain ⟨N, rfl⟩ : ∃ n, N = n + 3 := ⟨N - 3, by omega⟩
      rcases (by omega : e = 0 ∨ e = 1 ∨ e = 2 ∨ e = 3 ∨ e = 4 ∨ e = 5 ∨ e = 6 ∨ e = 7 ∨ e = 8 ∨ e = 9 ∨ e = 10) with q | q | q | q | q | q | q | q | q | q | q
      · subst q; rfl
      · subst q
        rw [if_neg (by decide), if_pos (by decide)]
        exact wp_e340 N _ _ _ _ _ _
      all_goals subst q; rfl)
    (fun fu k hk => by
      show fX12_errors_L90 N (nI i) (nI j) d (nI e) g51 (fu + 1) fm_0 0 fm_M 0 (nI k) = _
      rw [fX12_errors_L90.eq_2, if_neg (show ¬ (7 : Int32) ≤ nI k from nI_ge (a := k) (b := 7) hk (by decide)), wp_20, wp_atM N fm_0 0 fm_M wp_M7 (20 * i + j) k (by omega) (by omega), Option.bind_some, if_pos rfl, Option.bind_some, nI_1])
    N 0 (Nat.zero_le _) (by omega)
theorem wp_umid (M : Nat → Nat → Int32) (a k : Nat) (v : Int32) (h : M a k = v) : wb_um M a k v = M := by
  funext b j
  unfold wb_um upd
  by_cases hb : b = a
  · subst hb
    by_cases hj : j = k
    · subst hj; simp [h]
    · simp [hj]
  · simp [hb]
theorem wp_e51 (N : Nat) (hN : 7 < N) (i j : Nat) (hi : i ≤ 5) (hj : j ≤ 19) (d : Int32) (e : Nat) (he : e ≤ 10) : fX12_errors_L51 N (nI i) (nI j) d (nI e) N fm_0 0 fm_M 1 = some (if e = 1 then -1 else 0, fm_0, 0, fm_M) :=
  wp_lp (F := fun fu k => fX12_errors_L51 N (nI i) (nI j) d (nI e) fu fm_0 0 fm_M k) 4 (some (if e = 1 then -1 else 0, fm_0, 0, fm_M))
    (fun fu => by
      show fX12_errors_L51 N (nI i) (nI j) d (nI e) (fu + 1) fm_0 0 fm_M (nI 4) = _
      rw [fX12_errors_L51.eq_2, if_pos (by decide)]
      exact wp_e90 N hN i j hi hj d e he _)
    (fun fu k hk => by
      have hin := wp_in (k := k) (n := 4) hk (by decide)
      show fX12_errors_L51 N (nI i) (nI j) d (nI e) (fu + 1) fm_0 0 fm_M (nI k) = fX12_errors_L51 N (nI i) (nI j) d (nI e) fu fm_0 0 fm_M (nI (k + 1))
      rw [fX12_errors_L51.eq_2, if_neg (show ¬ (4 : Int32) ≤ nI k from nI_ge (a := k) (b := 4) hk (by decide)), if_neg hin, Option.bind_some, if_neg hin, Option.bind_some, if_neg hin, Option.bind_some, Option.bind_some, nI_clamp (by omega), nI_1]
      rw [wp_umid fm_M 20 k 0 (by simp [fm_M]), wp_umid fm_M 21 k 0 (by simp [fm_M]), wp_umid fm_M 22 k 0 (by simp [fm_M])])
    N 1 (by omega) (by omega)
theorem wp_hme (N : Nat) (hN : 7 < N) (I : Nat → Int32) (M : Nat → Nat → Int32) (hM : ∀ j, j < 7 → M 0 j = -1) : fX3_howManyErrors N I M = some 0 := by
  unfold fX3_howManyErrors
  exact wp_lp (F := fun fu k => fX3_howManyErrors_L4 N I M fu 0 k) 7 (some 0)
    (fun fu => by show fX3_howManyErrors_L4 N I M (fu + 1) 0 (nI 7) = _; rw [fX3_howManyErrors_L4.eq_2, if_pos (by decide)])
    (fun fu k hk => by
      show fX3_howManyErrors_L4 N I M (fu + 1) 0 (nI k) = _
      rw [fX3_howManyErrors_L4.eq_2, if_neg (show ¬ (7 : Int32) ≤ nI k from nI_ge (a := k) (b := 7) hk (by decide)), if_neg (wp_in hk (by decide)), nI_clamp (by omega), hM k hk, if_pos rfl, Option.bind_some, nI_1])
    N 0 (Nat.zero_le _) (by omega)
theorem wp_iss (N : Nat) (I : Nat → Int32) (M : Nat → Nat → Int32) (hM : ∀ j, j < 7 → M 0 j = -1) (k : Nat) (hk : k < 7) (x : Int32) : fX3_isShared N I M (nI k) x = some 0 := by
  unfold fX3_isShared
  rw [if_neg (wp_in hk (by decide)), nI_clamp (by omega), hM k hk, if_pos rfl]
theorem wp_hms (N : Nat) (hN : 7 < N) (I : Nat → Int32) (M : Nat → Nat → Int32) (hM : ∀ j, j < 7 → M 0 j = -1) (x : Int32) : fX3_howManyShared N I M x = some 0 := by
  unfold fX3_howManyShared
  exact wp_lp (F := fun fu k => fX3_howManyShared_L4 N I M x fu 0 k) 7 (some 0)
    (fun fu => by show fX3_howManyShared_L4 N I M x (fu + 1) 0 (nI 7) = _; rw [fX3_howManyShared_L4.eq_2, if_pos (by decide)])
    (fun fu k hk => by
      show fX3_howManyShared_L4 N I M x (fu + 1) 0 (nI k) = _
      rw [fX3_howManyShared_L4.eq_2, if_neg (show ¬ (7 : Int32) ≤ nI k from nI_ge (a := k) (b := 7) hk (by decide)), wp_iss N I M hM k hk, Option.bind_some, if_pos rfl, Option.bind_some, nI_1])
    N 0 (Nat.zero_le _) (by omega)
theorem wp_hma (N : Nat) (hN : 7 < N) (I : Nat → Int32) (M : Nat → Nat → Int32) (hM : ∀ j, j < 7 → M 0 j = -1) (x : Int32) (hx : ¬ (-1 : Int32) = ((1 : Int32) <<< (x &&& 31))) : fX3_howManyAlone N I M x = some 0 := by
  unfold fX3_howManyAlone
  exact wp_lp (F := fun fu k => fX3_howManyAlone_L4 N I M x fu 0 k) 7 (some 0)
    (fun fu => by show fX3_howManyAlone_L4 N I M x (fu + 1) 0 (nI 7) = _; rw [fX3_howManyAlone_L4.eq_2, if_pos (by decide)])
    (fun fu k hk => by
      show fX3_howManyAlone_L4 N I M x (fu + 1) 0 (nI k) = _
      rw [fX3_howManyAlone_L4.eq_2, if_neg (show ¬ (7 : Int32) ≤ nI k from nI_ge (a := k) (b := 7) hk (by decide)), if_neg (wp_in hk (by decide)), nI_clamp (by omega), hM k hk, if_neg hx, Option.bind_some, nI_1])
    N 0 (Nat.zero_le _) (by omega)
theorem wp_bc (N : Nat) : ∃ r, fJ6_bitCount_0f7a4 N (-1) = some r := ⟨_, rfl⟩
theorem wp_wt (N : Nat) (hN : 7 < N) (I : Nat → Int32) (M : Nat → Nat → Int32) (hM : ∀ j, j < 7 → M 0 j = -1) (x : Int32) : fX3_weightOf N I M x = some 0 := by
  obtain ⟨r, hr⟩ := wp_bc N
  unfold fX3_weightOf
  exact wp_lp (F := fun fu k => fX3_weightOf_L4 N I M x fu 0 k) 7 (some 0)
    (fun fu => by show fX3_weightOf_L4 N I M x (fu + 1) 0 (nI 7) = _; rw [fX3_weightOf_L4.eq_2, if_pos (by decide)])
    (fun fu k hk => by
      show fX3_weightOf_L4 N I M x (fu + 1) 0 (nI k) = _
      rw [fX3_weightOf_L4.eq_2, if_neg (show ¬ (7 : Int32) ≤ nI k from nI_ge (a := k) (b := 7) hk (by decide)), if_neg (wp_in hk (by decide)), wp_iss N I M hM k hk, nI_clamp (by omega), hM k hk, hr, Option.bind_some, Option.bind_some, if_pos rfl, Option.bind_some, nI_1])
    N 0 (Nat.zero_le _) (by omega)
theorem wp_sf (N : Nat) (hN : 7 < N) (I : Nat → Int32) (M : Nat → Nat → Int32) (hM : ∀ j, j < 7 → M 0 j = -1) : fX3_setFollowed N I M = some (-1) := by
  unfold fX3_setFollowed
  exact wp_lp (F := fun fu k => fX3_setFollowed_L6 N I M fu 0 (-1) k) 4 (some (-1))
    (fun fu => by show fX3_setFollowed_L6 N I M (fu + 1) 0 (-1) (nI 4) = _; rw [fX3_setFollowed_L6.eq_2, if_pos (by decide)])
    (fun fu k hk => by
      show fX3_setFollowed_L6 N I M (fu + 1) 0 (-1) (nI k) = _
      rw [fX3_setFollowed_L6.eq_2, if_neg (show ¬ (4 : Int32) ≤ nI k from nI_ge (a := k) (b := 4) hk (by decide)), wp_wt N hN I M hM, Option.bind_some, if_pos (Int32.le_refl 0), Option.bind_some, nI_1])
    N 1 (by omega) (by omega)
theorem wp_shM : ∀ j, j < 7 → (wb_sh (wb_in fx_M 15 1 (wp_fS (wb_sh fx_M 15) 7)) 15) 0 j = -1 := by
  intro j hj
  simp [wb_sh, wb_in, wp_fS, hj]
theorem wp_errT (N : Nat) (a b c d : Int32) : fX12_errors_J35 N a b c d fm_0 0 fm_M = some (0, fm_1, 0, fm_M) := by
  unfold fX12_errors_J35 fX12_errors_J36
  rw [wp_r0, Option.bind_some, if_pos rfl]
theorem wp_errX (N : Nat) (a b c d y : Int32) : fX11_errors_J29 N a b c d fx_I fx_M y = some (.inl 1) := by
  unfold fX11_errors_J29 fX11_errors_J30
  rw [wp_n0, wb_xb_l]
set_option maxRecDepth 10000 in
theorem p1_errorsN (n : Nat) (a b c d : Int32) : p1_t (fL_errors (n + 9) fx_I fx_M a b c d (fun _ => 0)) (fX12_errors (n + 9) fm_I 0 fm_M a b c d) := by
  unfold fL_errors fX11_errors fX12_errors
  rcases wp_num (n + 9) a b with ⟨h1, h2⟩ | ⟨i, j, hi, hj, rfl, rfl, h1, h2⟩
  · rw [h1, h2]; exact ⟨_, _, rfl, rfl, rfl, wp_t1⟩
  · rw [h1, h2]
    rw [wb_xb_r, Option.bind_some, if_neg wp_10]
    rcases wp_day (n + 9) c with ⟨d1, d2⟩ | ⟨q, hq, rfl, d1, d2⟩
    · rw [d1, d2, Option.bind_some, Option.bind_some, if_pos rfl, if_pos rfl, wp_errT, wp_errX]; exact ⟨_, _, rfl, rfl, rfl, wp_t1⟩
    · rw [d1, d2, Option.bind_some, Option.bind_some, if_neg wp_10, if_neg wp_10]
      rcases wp_wi (n + 9) d 10 (by decide) with ⟨k1, k2⟩ | ⟨e, he, rfl, k1, k2⟩
      · have k1 : fX11_within (n + 9) d 0 10 = some 0 := k1
        have k2 : fX12_within (n + 9) d 0 10 = some 0 := k2
        rw [k1, k2, Option.bind_some, Option.bind_some, if_pos rfl, if_pos rfl, wp_errT, wp_errX]; exact ⟨_, _, rfl, rfl, rfl, wp_t1⟩
      · have k1 : fX11_within (n + 9) (nI e) 0 10 = some 1 := k1
        have k2 : fX12_within (n + 9) (nI e) 0 10 = some 1 := k2
        rw [k1, k2, Option.bind_some, Option.bind_some, if_neg wp_10, if_neg wp_10]
        unfold fX12_errors_J36 fX11_errors_J30
        rw [wp_n1, wb_xb_r, wp_r1, Option.bind_some, if_neg wp_10]
        rw [wp_e51 (n + 9) (by omega) i j hi hj (nI q) e he, wp_share (n + 9) (by omega) _ _ _ _ _ _ wp_M13 (20 * i + j) (by omega) (nI q)]
        clear k1 k2
        simp only [Option.bind_some]
        rcases (by omega : e = 0 ∨ e = 1 ∨ e = 2 ∨ e = 3 ∨ e = 4 ∨ e = 5 ∨ e = 6 ∨ e = 7 ∨ e = 8 ∨ e = 9 ∨ e = 10) with z | z | z | z | z | z | z | z | z | z | z
        all_goals subst z
        · rw [if_pos (show nI 0 = 0 from rfl), wp_hme _ (by omega) _ _ wp_shM]; exact ⟨_, _, rfl, rfl, rfl, fun _ => rfl⟩
        · rw [if_neg (show ¬ nI 1 = 0 from by decide), if_pos (show nI 1 = 1 from rfl), wp_sf _ (by omega) _ _ wp_shM]; exact ⟨_, _, rfl, rfl, rfl, fun _ => rfl⟩
        · rw [if_neg (show ¬ nI 2 = 0 from by decide), if_neg (show ¬ nI 2 = 1 from by decide), if_neg (show ¬ (5 : Int32) ≤ nI 2 from by decide), wp_hms _ (by omega) _ _ wp_shM]; exact ⟨_, _, rfl, rfl, rfl, fun _ => rfl⟩
        · rw [if_neg (show ¬ nI 3 = 0 from by decide), if_neg (show ¬ nI 3 = 1 from by decide), if_neg (show ¬ (5 : Int32) ≤ nI 3 from by decide), wp_hms _ (by omega) _ _ wp_shM]; exact ⟨_, _, rfl, rfl, rfl, fun _ => rfl⟩
        · rw [if_neg (show ¬ nI 4 = 0 from by decide), if_neg (show ¬ nI 4 = 1 from by decide), if_neg (show ¬ (5 : Int32) ≤ nI 4 from by decide), wp_hms _ (by omega) _ _ wp_shM]; exact ⟨_, _, rfl, rfl, rfl, fun _ => rfl⟩
        · rw [if_neg (show ¬ nI 5 = 0 from by decide), if_neg (show ¬ nI 5 = 1 from by decide), if_pos (show (5 : Int32) ≤ nI 5 from by decide), if_neg (show ¬ (8 : Int32) ≤ nI 5 from by decide), wp_hma _ (by omega) _ _ wp_shM _ (by decide)]; exact ⟨_, _, rfl, rfl, rfl, fun _ => rfl⟩
        · rw [if_neg (show ¬ nI 6 = 0 from by decide), if_neg (show ¬ nI 6 = 1 from by decide), if_pos (show (5 : Int32) ≤ nI 6 from by decide), if_neg (show ¬ (8 : Int32) ≤ nI 6 from by decide), wp_hma _ (by omega) _ _ wp_shM _ (by decide)]; exact ⟨_, _, rfl, rfl, rfl, fun _ => rfl⟩
        · rw [if_neg (show ¬ nI 7 = 0 from by decide), if_neg (show ¬ nI 7 = 1 from by decide), if_pos (show (5 : Int32) ≤ nI 7 from by decide), if_neg (show ¬ (8 : Int32) ≤ nI 7 from by decide), wp_hma _ (by omega) _ _ wp_shM _ (by decide)]; exact ⟨_, _, rfl, rfl, rfl, fun _ => rfl⟩
        · rw [if_neg (show ¬ nI 8 = 0 from by decide), if_neg (show ¬ nI 8 = 1 from by decide), if_pos (show (5 : Int32) ≤ nI 8 from by decide), if_pos (show (8 : Int32) ≤ nI 8 from by decide), wp_wt _ (by omega) _ _ wp_shM]; exact ⟨_, _, rfl, rfl, rfl, fun _ => rfl⟩
        · rw [if_neg (show ¬ nI 9 = 0 from by decide), if_neg (show ¬ nI 9 = 1 from by decide), if_pos (show (5 : Int32) ≤ nI 9 from by decide), if_pos (show (8 : Int32) ≤ nI 9 from by decide), wp_wt _ (by omega) _ _ wp_shM]; exact ⟨_, _, rfl, rfl, rfl, fun _ => rfl⟩
        · rw [if_neg (show ¬ nI 10 = 0 from by decide), if_neg (show ¬ nI 10 = 1 from by decide), if_pos (show (5 : Int32) ≤ nI 10 from by decide), if_pos (show (8 : Int32) ≤ nI 10 from by decide), wp_wt _ (by omega) _ _ wp_shM]; exact ⟨_, _, rfl, rfl, rfl, fun _ => rfl⟩
theorem p1_errors (a b c d : Int32) : p1_t (fL_errors 60000 fx_I fx_M a b c d (fun _ => 0)) (fX12_errors 60000 fm_I 0 fm_M a b c d) := p1_errorsN 59991 a b c d

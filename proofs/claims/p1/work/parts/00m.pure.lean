/-! p1, pure: births -/
theorem wp_part22 (N : Nat) (hN : 120 < N) (I1 : Nat → Int32) (M1 : Nat → Nat → Int32) (I2 : Nat → Int32) (M2 : Nat → Nat → Int32) (hM : ∀ j, j < 2640 → M2 0 j = -1) (x : Int32) (hx : 0 < x) (k : Nat) (hk : k < 120) (g : (Nat → Int32) → (Nat → Nat → Int32) → Int32 → Option ((Nat → Int32) × (Nat → Nat → Int32))) (I : Nat → Int32) (M : Nat → Nat → Int32) (h : ∀ j, j ≤ k → M 0 j = nI j) : fX0_partBy_L22 N I1 M1 I2 M2 x (nI k) g N I M 0 = g I M (nI (k + 1)) :=
  wp_lp (F := fun fu j => fX0_partBy_L22 N I1 M1 I2 M2 x (nI k) g fu I M j) k (g I M (nI (k + 1)))
    (fun fu => by show fX0_partBy_L22 N I1 M1 I2 M2 x (nI k) g (fu + 1) I M (nI k) = _; rw [fX0_partBy_L22.eq_2, if_pos (nI_le (Nat.le_refl k) (by omega)), Option.bind_some, nI_1])
    (fun fu j hj => by
      show fX0_partBy_L22 N I1 M1 I2 M2 x (nI k) g (fu + 1) I M (nI j) = _
      have ne : ¬ (nI j = nI k) := fun q => by have := (nI_eq (by omega) (by omega)).mp q; omega
      rw [fX0_partBy_L22.eq_2, if_neg (nI_ge hj (by omega)), if_neg (wp_in (k := j) (n := 120) (by omega) (by decide)), if_neg (wp_in (k := k) (n := 120) hk (by decide)), nI_clamp (n := j) (by omega), nI_clamp (n := k) (by omega), h j (by omega), h k (by omega), if_neg ne, wp_oneX N (by omega) I1 M1 I2 M2 hM k j hk (by omega), if_pos hx, Option.bind_some, if_pos rfl, Option.bind_some, nI_1])
    N 0 (Nat.zero_le _) (by omega)
theorem wp_part3 (N : Nat) (hN : 120 < N) (I1 : Nat → Int32) (M1 : Nat → Nat → Int32) (I2 : Nat → Int32) (M2 : Nat → Nat → Int32) (hM : ∀ j, j < 2640 → M2 0 j = -1) (x : Int32) (hx : 0 < x) (I : Nat → Int32) : ∀ (fu k : Nat) (M : Nat → Nat → Int32), k ≤ 120 → 120 - k < fu → (∀ j, j < k → M 0 j = nI j) → ∃ M', fX0_partBy_L3 N I1 M1 I2 M2 x fu I M (nI k) = some (I, M') ∧ ∀ j, j < 120 → M' 0 j = nI j := by
  intro fu
  induction fu with
  | zero => intro k M h1 h2; omega
  | succ fu ih =>
    intro k M h1 h2 hk
    rcases Nat.lt_or_ge k 120 with h | h
    · rw [fX0_partBy_L3.eq_2, if_neg (show ¬ (120 : Int32) ≤ nI k from nI_ge (a := k) (b := 120) h (by decide)), if_neg (wp_in (k := k) (n := 120) h (by decide)), Option.bind_some, nI_clamp (by omega)]
      have hm : ∀ j, j ≤ k → wb_um M 0 k (nI k) 0 j = nI j := by
        intro j hj
        by_cases e : j = k
        · subst e; simp [wb_um, upd]
        · simp [wb_um, upd, e]; exact hk j (by omega)
      rw [wp_part22 N hN I1 M1 I2 M2 hM x hx k h _ I _ hm]
      exact ih (k + 1) _ h (by omega) (fun j hj => hm j (by omega))
    · have e : k = 120 := by omega
      subst e
      rw [fX0_partBy_L3.eq_2, if_pos (by decide)]
      exact ⟨_, rfl, hk⟩
theorem wp_parts (N : Nat) (hN : 120 < N) (I0 : Nat → Int32) (M0 : Nat → Nat → Int32) (I1 : Nat → Int32) (M1 : Nat → Nat → Int32) (hM : ∀ j, j < 2640 → M1 0 j = -1) (h0 : ∀ j, j < 120 → M0 0 j = nI j) : fX0_howManyParts N I0 M0 I1 M1 = some 0 := by
  unfold fX0_howManyParts
  exact wp_lp (F := fun fu k => fX0_howManyParts_L4 N I0 M0 I1 M1 fu 0 k) 120 (some 0)
    (fun fu => by show fX0_howManyParts_L4 N I0 M0 I1 M1 (fu + 1) 0 (nI 120) = _; rw [fX0_howManyParts_L4.eq_2, if_pos (by decide)])
    (fun fu k hk => by
      show fX0_howManyParts_L4 N I0 M0 I1 M1 (fu + 1) 0 (nI k) = _
      rw [fX0_howManyParts_L4.eq_2, if_neg (show ¬ (120 : Int32) ≤ nI k from nI_ge (a := k) (b := 120) hk (by decide)), if_neg (wp_in (k := k) (n := 120) hk (by decide)), nI_clamp (by omega), h0 k hk, if_pos rfl, wp_tellsX N (by omega) I1 M1 hM k hk, Option.bind_some, if_pos rfl, Option.bind_some, nI_1])
    N 0 (Nat.zero_le _) (by omega)
theorem wp_b43 (N : Nat) (a b : Int32) (I : Nat → Int32) (L : Int64) (P : Option (Int32 × (Nat → Int32) × Int64 × (Nat → Nat → Int32)) → Prop) (hP : ∀ (g : (Nat → Int32) → Int64 → (Nat → Nat → Int32) → Int32 → Option (Int32 × (Nat → Int32) × Int64 × (Nat → Nat → Int32))) (M : Nat → Nat → Int32), (∀ j, j < 2640 → M 7 j = -1) → (∀ j, j < 120 → M 31 j = nI j) → P (fX12_births_L64 N a b g N I L M 1)) : ∀ (fu k : Nat) (M : Nat → Nat → Int32), k ≤ 120 → 120 - k < fu → (∀ j, j < 2640 → M 7 j = -1) → (∀ j, j < k → M 31 j = nI j) → P (fX12_births_L43 N a b fu I L M (nI k)) := by
  intro fu
  induction fu with
  | zero => intro k M h1 h2; omega
  | succ fu ih =>
    intro k M h1 h2 hM hk
    rcases Nat.lt_or_ge k 120 with h | h
    · rw [fX12_births_L43.eq_2, if_neg (show ¬ (120 : Int32) ≤ nI k from nI_ge (a := k) (b := 120) h (by decide)), if_neg (wp_in (k := k) (n := 120) h (by decide)), Option.bind_some, Option.bind_some, nI_clamp (by omega), nI_1]
      refine ih (k + 1) _ h (by omega) (fun j hj => by simp [wb_um, hM j hj]) (fun j hj => ?_)
      by_cases e : j = k
      · subst e; simp [wb_um, upd]
      · simp [wb_um, upd, e]; exact hk j (by omega)
    · have e : k = 120 := by omega
      subst e
      rw [fX12_births_L43.eq_2, if_pos (by decide)]
      exact hP _ M hM hk
theorem wp_b83 (N : Nat) (hN : 120 < N) (a x : Int32) (hx : 0 < x) (k : Nat) (hk : k < 120) (g43 g64 : (Nat → Int32) → Int64 → (Nat → Nat → Int32) → Int32 → Option (Int32 × (Nat → Int32) × Int64 × (Nat → Nat → Int32))) (g73 : (Nat → Int32) → Int64 → (Nat → Nat → Int32) → Int32 → Int32 → Option (Int32 × (Nat → Int32) × Int64 × (Nat → Nat → Int32))) (I : Nat → Int32) (L : Int64) (M : Nat → Nat → Int32) (hM : ∀ j, j < 2640 → M 7 j = -1) (h : ∀ j, j < 120 → M 31 j = nI j) : fX12_births_L83 N a x (nI k) g43 g64 g73 N I L M 0 0 = g73 I L M 0 (nI (k + 1)) :=
  wp_lp (F := fun fu j => fX12_births_L83 N a x (nI k) g43 g64 g73 fu I L M 0 j) k (g73 I L M 0 (nI (k + 1)))
    (fun fu => by show fX12_births_L83 N a x (nI k) g43 g64 g73 (fu + 1) I L M 0 (nI k) = _; rw [fX12_births_L83.eq_2, if_pos (nI_le (Nat.le_refl k) (by omega)), Option.bind_some, nI_1])
    (fun fu j hj => by
      show fX12_births_L83 N a x (nI k) g43 g64 g73 (fu + 1) I L M 0 (nI j) = _
      have ne : ¬ (nI k = nI j) := fun q => by have := (nI_eq (by omega) (by omega)).mp q; omega
      rw [fX12_births_L83.eq_2, if_neg (nI_ge hj (by omega)), if_neg (wp_in (k := k) (n := 120) hk (by decide)), if_neg (wp_in (k := j) (n := 120) (by omega) (by decide)), nI_clamp (n := j) (by omega), nI_clamp (n := k) (by omega), h j (by omega), h k (by omega), if_neg ne, wp_sameM N (by omega) I L M hM k j hk (by omega), if_pos hx, Option.bind_some, if_pos rfl, Option.bind_some, nI_1])
    N 0 (Nat.zero_le _) (by omega)
theorem wp_b73 (N : Nat) (hN : 120 < N) (a x : Int32) (hx : 0 < x) (g43 g64 : (Nat → Int32) → Int64 → (Nat → Nat → Int32) → Int32 → Option (Int32 × (Nat → Int32) × Int64 × (Nat → Nat → Int32))) (I : Nat → Int32) (L : Int64) (M : Nat → Nat → Int32) (hM : ∀ j, j < 2640 → M 7 j = -1) (h : ∀ j, j < 120 → M 31 j = nI j) : fX12_births_L73 N a x g43 g64 N I L M 0 0 = g64 I L M 0 :=
  wp_lp (F := fun fu j => fX12_births_L73 N a x g43 g64 fu I L M 0 j) 120 (g64 I L M 0)
    (fun fu => by show fX12_births_L73 N a x g43 g64 (fu + 1) I L M 0 (nI 120) = _; rw [fX12_births_L73.eq_2, if_pos (by decide)])
    (fun fu k hk => by
      show fX12_births_L73 N a x g43 g64 (fu + 1) I L M 0 (nI k) = _
      rw [fX12_births_L73.eq_2, if_neg (show ¬ (120 : Int32) ≤ nI k from nI_ge (a := k) (b := 120) hk (by decide)), wp_b83 N hN a x hx k hk g43 g64 _ I L M hM h])
    N 0 (Nat.zero_le _) (by omega)
theorem wp_b211 (N : Nat) (hN : 120 < N) (a x : Int32) (g43 g64 : (Nat → Int32) → Int64 → (Nat → Nat → Int32) → Int32 → Option (Int32 × (Nat → Int32) × Int64 × (Nat → Nat → Int32))) (I : Nat → Int32) (L : Int64) (M : Nat → Nat → Int32) (hM : ∀ j, j < 2640 → M 7 j = -1) (h : ∀ j, j < 120 → M 31 j = nI j) : fX12_births_L211 N a x g43 g64 N I L M 0 0 = some (0, I, L, M) :=
  wp_lp (F := fun fu j => fX12_births_L211 N a x g43 g64 fu I L M 0 j) 120 (some (0, I, L, M))
    (fun fu => by show fX12_births_L211 N a x g43 g64 (fu + 1) I L M 0 (nI 120) = _; rw [fX12_births_L211.eq_2, if_pos (by decide)])
    (fun fu k hk => by
      show fX12_births_L211 N a x g43 g64 (fu + 1) I L M 0 (nI k) = fX12_births_L211 N a x g43 g64 fu I L M 0 (nI (k + 1))
      rw [fX12_births_L211.eq_2, if_neg (show ¬ (120 : Int32) ≤ nI k from nI_ge (a := k) (b := 120) hk (by decide)), if_neg (wp_in (k := k) (n := 120) hk (by decide)), nI_clamp (by omega), h k hk, if_pos rfl, wp_tellsM N (by omega) I L M hM k hk, Option.bind_some, if_pos rfl, Option.bind_some, Option.bind_some, nI_1]
      rfl)
    N 0 (Nat.zero_le _) (by omega)
theorem wp_birthsM (N : Nat) (hN : 121 < N) (a x : Int32) (hx : 0 < x) (ha : a = -1 ∨ ∃ i : Nat, i < 120 ∧ a = nI i) (I : Nat → Int32) (L : Int64) : ∃ M', fX12_births_L43 N a x N I L fm_M 0 = some (if a = -1 then 0 else a, I, L, M') := by
  refine wp_b43 N a x I L (fun X => ∃ M', X = some (if a = -1 then 0 else a, I, L, M')) (fun g M hM h => ?_) N 0 fm_M (by omega) (by omega) wp_M7 (fun j hj => by omega)
  obtain ⟨N, rfl⟩ : ∃ n, N = n + 2 := ⟨N - 2, by omega⟩
  rw [fX12_births_L64.eq_2, if_neg (by decide), wp_b73 (N + 2) (by omega) a x hx _ _ I L M hM h, fX12_births_L64.eq_2, if_pos rfl]
  by_cases q : a = -1
  · rw [if_pos q, if_pos q, wp_b211 (N + 2) (by omega) a x _ _ I L M hM h]; exact ⟨_, rfl⟩
  · rw [if_neg q, if_neg q]
    obtain ⟨i, hi, rfl⟩ := ha.resolve_left q
    rw [if_neg (wp_in (k := i) (n := 120) hi (by decide)), nI_clamp (by omega), h i hi]
    exact ⟨_, rfl⟩
theorem wp_ltm1 {x : Int32} (h : x < 0) (n : ¬ x = -1) : x < -1 := by
  have h3 := Int32.lt_iff_toInt_lt.mp h
  refine Int32.lt_iff_toInt_lt.mpr ?_
  have e1 : (-1 : Int32).toInt = -1 := by decide
  have e0 : (0 : Int32).toInt = 0 := by decide
  have e2 : ¬ x.toInt = -1 := fun q => n (Int32.toInt_inj.mp (by rw [q, e1]))
  omega
set_option maxRecDepth 10000 in
theorem p1_births (N : Nat) (hN : 121 < N) (a x : Int32) (o : Nat → Int64) : p1_t (fL_births N fx_I fx_M a x o) (fX12_births N fm_I 0 fm_M a x) := by
  unfold fL_births fX11_births fX12_births
  rw [wp_u0]
  simp only [Option.bind_some]
  have hin : (fX11_within N x 1 7 = some 1) → (a = -1 ∨ ∃ i : Nat, i < 120 ∧ a = nI i) → p1_t (wb_hp (fX11_births_J27 N a x fx_I fx_M 1) (fun k => if k = 1 then some ((1 : Int32), fx_I, fx_M, o) else none) (fun r => (some (vp_updL o ((0 : Int32)).toNatClampNeg r.1.toInt64)).bind fun o_1 => some ((0 : Int32), r.2.1, r.2.2, o_1))) (fX12_births_J32 N a x fm_0 0 fm_M 1) := by
    intro hw ha
    have hx : 0 < x := by
      unfold fX11_within at hw
      by_cases q : x < 1
      · rw [if_pos q] at hw; exact absurd hw (by decide)
      · refine Int32.lt_iff_toInt_lt.mpr ?_
        have h3 : ¬ x.toInt < (1 : Int32).toInt := fun h => q (Int32.lt_iff_toInt_lt.mpr h)
        have e1 : (1 : Int32).toInt = 1 := by decide
        have e0 : (0 : Int32).toInt = 0 := by decide
        omega
    obtain ⟨M', hm⟩ := wp_birthsM N hN a x hx ha fm_0 0
    unfold fX11_births_J27 fX12_births_J32 fX0_partBy
    simp only [Option.bind_some, wp_n1, wb_xb_r, wp_r1, wp_10, if_false]
    rw [hm]
    obtain ⟨M2, hp, h2⟩ := wp_part3 N (by omega) (wb_sh fx_I 10) (wb_sh fx_M 6) (wb_sh fx_I 13) (wb_sh fx_M 13) wp_M13 x hx (wb_sh fx_I 43) N 0 (wb_sh fx_M 27) (by omega) (by omega) (fun j hj => by omega)
    have hp : fX0_partBy_L3 N (wb_sh fx_I 10) (wb_sh fx_M 6) (wb_sh fx_I 13) (wb_sh fx_M 13) x N (wb_sh fx_I 43) (wb_sh fx_M 27) 0 = some (wb_sh fx_I 43, M2) := hp
    rw [hp]
    simp only [Option.bind_some]
    by_cases q : a = -1
    · rw [if_pos q, if_pos q, wp_parts N (by omega) _ _ _ _ (fun j hj => by show fx_M 13 j = -1; simp [fx_M, hj]) (fun j hj => by show M2 0 j = nI j; exact h2 j hj)]
      exact ⟨_, _, rfl, rfl, rfl, fun _ => rfl⟩
    · rw [if_neg q, if_neg q]
      obtain ⟨i, hi, rfl⟩ := ha.resolve_left q
      unfold fX0_leastOf
      rw [if_neg (wp_in (k := i) (n := 120) hi (by decide)), nI_clamp (by omega)]
      have e : wb_sh (wb_in fx_M 27 1 M2) 27 0 i = nI i := by show M2 0 i = nI i; exact h2 i hi
      rw [e]
      exact ⟨_, _, rfl, rfl, rfl, fun _ => rfl⟩
  unfold fX11_births_J12
  by_cases q : a = -1
  · have n1 : ¬ a < -1 := by rw [q]; decide
    have n2 : ¬ (120 : Int32) ≤ a := by rw [q]; decide
    rw [if_pos q, if_neg n1, if_neg n2]
    rcases wp_w01 N x 1 7 with ⟨k1, k2⟩ | ⟨k1, k2⟩
    · rw [k1, k2]; exact ⟨_, _, rfl, rfl, rfl, wp_t1⟩
    · rw [k1, k2]
      simp only [Option.bind_some, wp_10, if_false]
      exact hin k1 (Or.inl q)
  · rw [if_neg q]
    rcases wp_nb N a with ⟨w1, w2⟩ | ⟨i, hi, rfl, w1, w2⟩
    · rw [w1]
      have hout : a < -1 ∨ (120 : Int32) ≤ a := by
        rcases wp_cl (x := a) 119 (by decide) with h | h | ⟨i, hi, rfl⟩
        · exact Or.inl (wp_ltm1 h q)
        · exact Or.inr (wp_ge (n := 119) (by decide) h)
        · exfalso
          unfold fX11_isNumber fX11_within at w1
          rw [if_neg (nI_pos (by omega)), if_neg (show ¬ (119 : Int32) < nI i from nI_nlt (b := i) (a := 119) hi (by decide))] at w1
          exact absurd w1 (by decide)
      rcases wp_w01 N x 1 7 with ⟨k1, k2⟩ | ⟨k1, k2⟩
      · rw [k2]; exact ⟨_, _, rfl, rfl, rfl, wp_t1⟩
      · rw [k2]
        simp only [Option.bind_some, wp_10, if_false]
        by_cases h1 : a < -1
        · rw [if_pos h1]; exact ⟨_, _, rfl, rfl, rfl, wp_t1⟩
        · rw [if_neg h1, if_pos (hout.resolve_left h1)]; exact ⟨_, _, rfl, rfl, rfl, wp_t1⟩
    · rw [w1]
      have n1 : ¬ nI i < -1 := fun h => by
        have h3 := Int32.lt_iff_toInt_lt.mp h
        rw [nI_toInt (by omega)] at h3
        have e1 : (-1 : Int32).toInt = -1 := by decide
        omega
      have n2 : ¬ (120 : Int32) ≤ nI i := nI_ge (a := i) (b := 120) (by omega) (by decide)
      simp only [Option.bind_some, wp_10, if_false]
      rw [if_neg n1, if_neg n2]
      rcases wp_w01 N x 1 7 with ⟨k1, k2⟩ | ⟨k1, k2⟩
      · rw [k1, k2]; exact ⟨_, _, rfl, rfl, rfl, wp_t1⟩
      · rw [k1, k2]
        simp only [Option.bind_some, wp_10, if_false]
        exact hin k1 (Or.inr ⟨i, by omega, rfl⟩)

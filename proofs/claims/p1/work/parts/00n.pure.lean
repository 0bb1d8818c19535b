/-! p1, pure: house, wheel, and every case -/
theorem wp_hs0 (N : Nat) (x : Int32) (h : ¬ x = 0) : fX11_within N x 0 0 = some 0 := by
  unfold fX11_within
  by_cases h0 : x < 0
  · rw [if_pos h0]
  · rw [if_neg h0, if_pos]
    obtain ⟨j, hj, rfl⟩ := nI_of h0
    have : j ≠ 0 := fun q => h (by rw [q]; rfl)
    exact nI_lt (a := 0) (by omega) hj
theorem wp_bg (N : Nat) (I : Nat → Int32) (h0 : I 0 = 0) (h3 : I 3 = 0) (x : Int32) (h : ¬ x = 0) : fX12_begins N I 0 fm_M x = if I 12 = 0 then some (0, upd I 0 1, 0, fm_M) else some (0, upd I 0 2, 0, fm_M) := by
  have hj : fX12_begins_J17 N x I 0 fm_M = if I 12 = 0 then some (0, upd I 0 1, 0, fm_M) else some (0, upd I 0 2, 0, fm_M) := by
    unfold fX12_begins_J17 fX12_begins_J18 fX12_begins_J36 fX12_begins_J37 fX12_right
    by_cases h12 : I 12 = 0
    · rw [if_pos h0, if_pos h12, if_pos h12, if_pos h0, if_pos rfl]
      rfl
    · rw [if_pos h0, if_neg h12, if_neg h12, if_pos h0, if_pos rfl]
      rfl
  unfold fX12_begins
  by_cases hn : x < 0
  · rw [if_pos hn, hj]
  · have h2 : I 3 < x := by
      rw [h3]
      obtain ⟨j, hj2, rfl⟩ := nI_of hn
      have : j ≠ 0 := fun q => h (by rw [q]; rfl)
      exact nI_lt (a := 0) (by omega) hj2
    rw [if_neg hn, if_pos h2, hj]
set_option maxRecDepth 10000 in
theorem p1_house0 : p1_b (fL_house 60000 fx_I fx_M 0 (fun _ => 0)) (fX12_house 60000 fm_I 0 fm_M 0) = true := by decide +kernel
set_option maxRecDepth 10000 in
theorem p1_house (a : Int32) : p1_t (fL_house 60000 fx_I fx_M a (fun _ => 0)) (fX12_house 60000 fm_I 0 fm_M a) := by
  by_cases h : a = 0
  · subst h; exact p1_bt p1_house0
  · unfold fL_house fX11_house fX12_house
    rw [show fx_I 0 = 0 from rfl, wp_hs0 60000 a h, wp_u0, Option.bind_some, Option.bind_some, Option.bind_some, wp_bg 60000 (upd fm_0 12 0) rfl rfl a h, if_pos (show (upd fm_0 12 0) 12 = 0 from rfl), Option.bind_some, if_pos rfl, wp_a0, wb_xb_l]
    exact ⟨_, _, rfl, rfl, rfl, wp_t1⟩
set_option maxRecDepth 10000 in
theorem p1_wheel0 : ∀ i, i < 6 → ∀ j, j < 20 → p1_b (fL_wheel 60000 fx_I fx_M (nI i) (nI j) 0 (fun _ => 0)) (fX12_wheel 60000 fm_I 0 fm_M (nI i) (nI j) 0) = true := by decide +kernel
set_option maxRecDepth 10000 in
theorem p1_wheel (a b c : Int32) : p1_t (fL_wheel 60000 fx_I fx_M a b c (fun _ => 0)) (fX12_wheel 60000 fm_I 0 fm_M a b c) := by
  rcases wp_num 60000 a b with ⟨h1, h2⟩ | ⟨i, j, hi, hj, rfl, rfl, h1, h2⟩
  · unfold fL_wheel fX11_wheel fX12_wheel
    rw [h1, h2]; exact ⟨_, _, rfl, rfl, rfl, wp_t1⟩
  · by_cases h : c = 0
    · subst h; exact p1_bt (p1_wheel0 i (by omega) j (by omega))
    · unfold fL_wheel fX11_wheel fX12_wheel
      rw [h1, h2]
      simp only [wb_xb_r, Option.bind_some, wp_10, if_false]
      rw [show fx_I 0 = 0 from rfl, wp_hs0 60000 c h, wp_bg 60000 (upd fm_0 12 1) rfl rfl c h, if_neg (by decide)]
      exact ⟨_, _, rfl, rfl, rfl, wp_t2⟩
theorem p1_i1 : ¬ (((0 : Int32) + (1 : Int32)) < 0 ∨ 6 ≤ (((0 : Int32) + (1 : Int32))).toNatClampNeg) := by decide
theorem p1_i2 : ¬ (((0 : Int32) + (2 : Int32)) < 0 ∨ 6 ≤ (((0 : Int32) + (2 : Int32))).toNatClampNeg) := by decide
theorem p1_i3 : ¬ (((0 : Int32) + (3 : Int32)) < 0 ∨ 6 ≤ (((0 : Int32) + (3 : Int32))).toNatClampNeg) := by decide
theorem p1_i4 : ¬ (((0 : Int32) + (4 : Int32)) < 0 ∨ 6 ≤ (((0 : Int32) + (4 : Int32))).toNatClampNeg) := by decide
theorem p1_i5 : ¬ (((0 : Int32) + (5 : Int32)) < 0 ∨ 6 ≤ (((0 : Int32) + (5 : Int32))).toNatClampNeg) := by decide
theorem wp_putL (N fu : Nat) (x y : Int32) (I : Nat → Int32) (M : Nat → Nat → Int32) (p : Nat) (hp : p < 600) (h : I 0 = nI p) (hy : ¬ y < 0) : ∃ M', fX9_put_L3 N x (fu + 1) I M y = fX9_put_L3 N x fu (upd I 0 (nI (p + 1))) M' (y + (-8)) := by
  refine ⟨wb_um M 0 p (vp_nar .byte (x >>> (y &&& 31)).toInt8.toInt32), ?_⟩
  rw [fX9_put_L3.eq_2, if_neg hy, h, if_neg (show ¬ (600 : Int32) ≤ nI p from nI_ge (a := p) (b := 600) hp (by decide)), if_neg (wp_in hp (by decide)), Option.bind_some, Option.bind_some, Option.bind_some, nI_clamp (by omega), nI_1]
theorem wp_put (N : Nat) (hN : 5 ≤ N) (x : Int32) (I : Nat → Int32) (M : Nat → Nat → Int32) (p : Nat) (hp : p + 4 ≤ 600) (h : I 0 = nI p) : ∃ r, fX9_put N I M x = some r ∧ (wb_in I 0 9 r.1) 0 = nI (p + 4) := by
  obtain ⟨n, rfl⟩ : ∃ n, N = n + 5 := ⟨N - 5, by omega⟩
  unfold fX9_put
  obtain ⟨M1, h1⟩ := wp_putL (n + 5) (n + 4) x 24 I M p (by omega) h (by decide)
  obtain ⟨M2, h2⟩ := wp_putL (n + 5) (n + 3) x (24 + -8) (upd I 0 (nI (p + 1))) M1 (p + 1) (by omega) rfl (by decide)
  obtain ⟨M3, h3⟩ := wp_putL (n + 5) (n + 2) x (24 + -8 + -8) (upd (upd I 0 (nI (p + 1))) 0 (nI (p + 2))) M2 (p + 2) (by omega) rfl (by decide)
  obtain ⟨M4, h4⟩ := wp_putL (n + 5) (n + 1) x (24 + -8 + -8 + -8) (upd (upd (upd I 0 (nI (p + 1))) 0 (nI (p + 2))) 0 (nI (p + 3))) M3 (p + 3) (by omega) rfl (by decide)
  refine ⟨(upd (upd (upd (upd I 0 (nI (p + 1))) 0 (nI (p + 2))) 0 (nI (p + 3))) 0 (nI (p + 4)), M4), h1.trans (h2.trans (h3.trans (h4.trans ?_))), ?_⟩
  · rw [fX9_put_L3.eq_2, if_pos (by decide)]
  · rfl
theorem wp_layL (N fu : Nat) (x y : Int32) (I : Nat → Int32) (L : Int64) (M : Nat → Nat → Int32) (p : Nat) (hp : p < 600) (h : I 3 = nI p) (hy : ¬ y < 0) : ∃ M', fX12_lays_L3 N x (fu + 1) I L M y = fX12_lays_L3 N x fu (upd I 3 (nI (p + 1))) L M' (y + (-8)) := by
  refine ⟨wb_um M 8 p ((x >>> (y &&& 31)) &&& (255 : Int32)), ?_⟩
  rw [fX12_lays_L3.eq_2, if_neg hy, h, if_neg (wp_in hp (by decide)), Option.bind_some, Option.bind_some, Option.bind_some, nI_clamp (by omega), nI_1]
theorem wp_lay (N : Nat) (hN : 5 ≤ N) (x : Int32) (I : Nat → Int32) (L : Int64) (M : Nat → Nat → Int32) (p : Nat) (hp : p + 4 ≤ 600) (h : I 3 = nI p) : ∃ r, fX12_lays N I L M x = some r ∧ r.1 3 = nI (p + 4) := by
  obtain ⟨n, rfl⟩ : ∃ n, N = n + 5 := ⟨N - 5, by omega⟩
  unfold fX12_lays
  obtain ⟨M1, h1⟩ := wp_layL (n + 5) (n + 4) x 24 I L M p (by omega) h (by decide)
  obtain ⟨M2, h2⟩ := wp_layL (n + 5) (n + 3) x (24 + -8) (upd I 3 (nI (p + 1))) L M1 (p + 1) (by omega) rfl (by decide)
  obtain ⟨M3, h3⟩ := wp_layL (n + 5) (n + 2) x (24 + -8 + -8) (upd (upd I 3 (nI (p + 1))) 3 (nI (p + 2))) L M2 (p + 2) (by omega) rfl (by decide)
  obtain ⟨M4, h4⟩ := wp_layL (n + 5) (n + 1) x (24 + -8 + -8 + -8) (upd (upd (upd I 3 (nI (p + 1))) 3 (nI (p + 2))) 3 (nI (p + 3))) L M3 (p + 3) (by omega) rfl (by decide)
  refine ⟨(upd (upd (upd (upd I 3 (nI (p + 1))) 3 (nI (p + 2))) 3 (nI (p + 3))) 3 (nI (p + 4)), L, M4), h1.trans (h2.trans (h3.trans (h4.trans ?_))), ?_⟩
  · rw [fX12_lays_L3.eq_2, if_pos (by decide)]
  · rfl
theorem wp_feedX (N : Nat) (hN : 5 ≤ N) (a b c d e : Int32) : ∃ r, fX11_feed N fx_I fx_M a b c d e = some r ∧ r.1 = nI 20 := by
  unfold fX11_feed fX9_hasRoom
  rw [if_neg (show ¬ (580 : Int32) < fx_I 0 from by decide), Option.bind_some, if_neg wp_10]
  obtain ⟨r1, h1, k1⟩ := wp_put N hN a fx_I fx_M 0 (by omega) rfl
  rw [h1, Option.bind_some, Option.bind_some, Option.bind_some]
  obtain ⟨r2, h2, k2⟩ := wp_put N hN b _ (wb_in fx_M 0 1 r1.2) _ (by omega) k1
  rw [h2, Option.bind_some, Option.bind_some, Option.bind_some]
  obtain ⟨r3, h3, k3⟩ := wp_put N hN c _ (wb_in (wb_in fx_M 0 1 r1.2) 0 1 r2.2) _ (by omega) k2
  rw [h3, Option.bind_some, Option.bind_some, Option.bind_some]
  obtain ⟨r4, h4, k4⟩ := wp_put N hN d _ (wb_in (wb_in (wb_in fx_M 0 1 r1.2) 0 1 r2.2) 0 1 r3.2) _ (by omega) k3
  rw [h4, Option.bind_some, Option.bind_some, Option.bind_some]
  obtain ⟨r5, h5, k5⟩ := wp_put N hN e _ (wb_in (wb_in (wb_in (wb_in fx_M 0 1 r1.2) 0 1 r2.2) 0 1 r3.2) 0 1 r4.2) _ (by omega) k4
  rw [h5, Option.bind_some, Option.bind_some, Option.bind_some]
  exact ⟨_, rfl, k5⟩
theorem wp_feedM (N : Nat) (hN : 5 ≤ N) (a b c d e : Int32) : ∃ r, fX12_feed N fm_I 0 fm_M a b c d e = some r ∧ r.1 = nI 20 := by
  unfold fX12_feed
  rw [wp_u0, Option.bind_some, if_pos (show (fm_0 3 + 20 : Int32) ≤ 600 from by decide)]
  obtain ⟨r1, h1, k1⟩ := wp_lay N hN a fm_0 0 fm_M 0 (by omega) rfl
  rw [h1, Option.bind_some]
  obtain ⟨r2, h2, k2⟩ := wp_lay N hN b _ r1.2.1 r1.2.2 _ (by omega) k1
  rw [h2, Option.bind_some]
  obtain ⟨r3, h3, k3⟩ := wp_lay N hN c _ r2.2.1 r2.2.2 _ (by omega) k2
  rw [h3, Option.bind_some]
  obtain ⟨r4, h4, k4⟩ := wp_lay N hN d _ r3.2.1 r3.2.2 _ (by omega) k3
  rw [h4, Option.bind_some]
  obtain ⟨r5, h5, k5⟩ := wp_lay N hN e _ r4.2.1 r4.2.2 _ (by omega) k4
  rw [h5, Option.bind_some]
  exact ⟨_, rfl, k5⟩
theorem p1_c0 (xs : Nat → Int32) : ∃ R, fL_case0 60000 6 xs fx_I fx_M fm_I 0 fm_M (fun _ => 0) 0 = some R := by
  unfold fL_case0
  rw [if_neg p1_i1, if_neg p1_i2, if_neg p1_i3, if_neg p1_i4, if_neg p1_i5]
  obtain ⟨r1, h1, k1⟩ := wp_feedX 60000 (by decide) (xs ((0 : Int32) + (1 : Int32)).toNatClampNeg) (xs ((0 : Int32) + (2 : Int32)).toNatClampNeg) (xs ((0 : Int32) + (3 : Int32)).toNatClampNeg) (xs ((0 : Int32) + (4 : Int32)).toNatClampNeg) (xs ((0 : Int32) + (5 : Int32)).toNatClampNeg)
  obtain ⟨r2, h2, k2⟩ := wp_feedM 60000 (by decide) (xs ((0 : Int32) + (1 : Int32)).toNatClampNeg) (xs ((0 : Int32) + (2 : Int32)).toNatClampNeg) (xs ((0 : Int32) + (3 : Int32)).toNatClampNeg) (xs ((0 : Int32) + (4 : Int32)).toNatClampNeg) (xs ((0 : Int32) + (5 : Int32)).toNatClampNeg)
  rw [h1, Option.bind_some, if_neg p1_i1, if_neg p1_i2, if_neg p1_i3, if_neg p1_i4, if_neg p1_i5, h2, Option.bind_some, if_pos (by rw [k1, k2])]
  exact ⟨_, rfl⟩
theorem p1_c1 (xs : Nat → Int32) : ∃ R, fL_case1 60000 6 xs fx_I fx_M fm_I 0 fm_M (fun _ => 0) 0 = some R := by
  unfold fL_case1
  simp only [p1_i1, p1_i2, p1_i3, p1_i4, p1_i5, if_false]
  exact p1_tA (p1_house  _)
theorem p1_c2 (xs : Nat → Int32) : ∃ R, fL_case2 60000 6 xs fx_I fx_M fm_I 0 fm_M (fun _ => 0) 0 = some R := by
  unfold fL_case2
  simp only [p1_i1, p1_i2, p1_i3, p1_i4, p1_i5, if_false]
  exact p1_tA (p1_wheel  _ _ _)
set_option maxRecDepth 100000 in
theorem p1_c3 (xs : Nat → Int32) : ∃ R, fL_case3 60000 6 xs fx_I fx_M fm_I 0 fm_M (fun _ => 0) 0 = some R := ⟨_, rfl⟩
theorem p1_c4 (xs : Nat → Int32) : ∃ R, fL_case4 60000 6 xs fx_I fx_M fm_I 0 fm_M (fun _ => 0) 0 = some R := by
  unfold fL_case4
  simp only [p1_i1, p1_i2, p1_i3, p1_i4, p1_i5, if_false]
  exact p1_tA (p1_count 60000 (by decide) _ _)
theorem p1_c5 (xs : Nat → Int32) : ∃ R, fL_case5 60000 6 xs fx_I fx_M fm_I 0 fm_M (fun _ => 0) 0 = some R := by
  unfold fL_case5
  simp only [p1_i1, p1_i2, p1_i3, p1_i4, p1_i5, if_false]
  exact p1_tA (p1_place 60000 _ _ _ _)
theorem p1_c6 (xs : Nat → Int32) : ∃ R, fL_case6 60000 6 xs fx_I fx_M fm_I 0 fm_M (fun _ => 0) 0 = some R := by
  unfold fL_case6
  simp only [p1_i1, p1_i2, p1_i3, p1_i4, p1_i5, if_false]
  exact p1_tA (p1_entry 60000 _ _ _ _)
theorem p1_c7 (xs : Nat → Int32) : ∃ R, fL_case7 60000 6 xs fx_I fx_M fm_I 0 fm_M (fun _ => 0) 0 = some R := by
  unfold fL_case7
  simp only [p1_i1, p1_i2, p1_i3, p1_i4, p1_i5, if_false]
  exact p1_tA (p1_cost 60000 (by decide) _ _ _ _ _)
theorem p1_c8 (xs : Nat → Int32) : ∃ R, fL_case8 60000 6 xs fx_I fx_M fm_I 0 fm_M (fun _ => 0) 0 = some R := by
  unfold fL_case8
  simp only [p1_i1, p1_i2, p1_i3, p1_i4, p1_i5, if_false]
  exact p1_tA (p1_best 60000 (by decide) _ _ _ _ _ _)
theorem p1_c9 (xs : Nat → Int32) : ∃ R, fL_case9 60000 6 xs fx_I fx_M fm_I 0 fm_M (fun _ => 0) 0 = some R := by
  unfold fL_case9
  simp only [p1_i1, p1_i2, p1_i3, p1_i4, p1_i5, if_false]
  exact p1_tA (p1_day 60000 _ _)
theorem p1_c10 (xs : Nat → Int32) : ∃ R, fL_case10 60000 6 xs fx_I fx_M fm_I 0 fm_M (fun _ => 0) 0 = some R := by
  unfold fL_case10
  simp only [p1_i1, p1_i2, p1_i3, p1_i4, p1_i5, if_false]
  exact p1_tA (p1_whose 60000 (by decide) _ _ _ _ _ _)
theorem p1_c11 (xs : Nat → Int32) : ∃ R, fL_case11 60000 6 xs fx_I fx_M fm_I 0 fm_M (fun _ => 0) 0 = some R := by
  unfold fL_case11
  simp only [p1_i1, p1_i2, p1_i3, p1_i4, p1_i5, if_false]
  exact p1_tA (p1_mixed 60000 (by decide) _ _ _ _ _)
theorem p1_c12 (xs : Nat → Int32) : ∃ R, fL_case12 60000 6 xs fx_I fx_M fm_I 0 fm_M (fun _ => 0) 0 = some R := by
  unfold fL_case12
  simp only [p1_i1, p1_i2, p1_i3, p1_i4, p1_i5, if_false]
  exact p1_tA (p1_climb 60000 _ _ _)
theorem p1_c13 (xs : Nat → Int32) : ∃ R, fL_case13 60000 6 xs fx_I fx_M fm_I 0 fm_M (fun _ => 0) 0 = some R := by
  unfold fL_case13
  simp only [p1_i1, p1_i2, p1_i3, p1_i4, p1_i5, if_false]
  exact p1_tA (p1_rise 60000 _ _ _ _)
theorem p1_c14 (xs : Nat → Int32) : ∃ R, fL_case14 60000 6 xs fx_I fx_M fm_I 0 fm_M (fun _ => 0) 0 = some R := by
  unfold fL_case14
  simp only [p1_i1, p1_i2, p1_i3, p1_i4, p1_i5, if_false]
  exact p1_tA (p1_middle 60000 _ _ _)
theorem p1_c15 (xs : Nat → Int32) : ∃ R, fL_case15 60000 6 xs fx_I fx_M fm_I 0 fm_M (fun _ => 0) 0 = some R := by
  unfold fL_case15
  simp only [p1_i1, p1_i2, p1_i3, p1_i4, p1_i5, if_false]
  exact p1_tA (p1_hour 60000 (by decide) _ _ _ _)
theorem p1_c16 (xs : Nat → Int32) : ∃ R, fL_case16 60000 6 xs fx_I fx_M fm_I 0 fm_M (fun _ => 0) 0 = some R := by
  unfold fL_case16
  simp only [p1_i1, p1_i2, p1_i3, p1_i4, p1_i5, if_false]
  exact p1_tA (p1_houseOf 60000 _ _ _ _ _)
theorem p1_c17 (xs : Nat → Int32) : ∃ R, fL_case17 60000 6 xs fx_I fx_M fm_I 0 fm_M (fun _ => 0) 0 = some R := by
  unfold fL_case17
  simp only [p1_i1, p1_i2, p1_i3, p1_i4, p1_i5, if_false]
  exact p1_tA (p1_agree 60000 _ _ _ _ _)
theorem p1_c18 (xs : Nat → Int32) : ∃ R, fL_case18 60000 6 xs fx_I fx_M fm_I 0 fm_M (fun _ => 0) 0 = some R := by
  unfold fL_case18
  simp only [p1_i1, p1_i2, p1_i3, p1_i4, p1_i5, if_false]
  exact p1_tA (p1_lot 60000 _ _ _ _)
theorem p1_c19 (xs : Nat → Int32) : ∃ R, fL_case19 60000 6 xs fx_I fx_M fm_I 0 fm_M (fun _ => 0) 0 = some R := by
  unfold fL_case19
  simp only [p1_i1, p1_i2, p1_i3, p1_i4, p1_i5, if_false]
  exact p1_tA (p1_price 60000 (by decide) _ _ _)
theorem p1_tS {N : Nat} {o2 : Nat → Int64} {X : Option (Int32 × (Nat → Int32) × (Nat → Nat → Int32))} {Y : Option ((Nat → Int32) × Int64 × (Nat → Nat → Int32))} (h : p1_s X Y) : ∃ R, (X.bind fun r1 => (some (r1.1)).bind fun v2 => Y.bind fun r3 => (fX12_thrown N r3.1 r3.2.1 r3.2.2).bind fun r4 => if r4 = v2 then (some (r1.2.1, r1.2.2, r3.1, r3.2.1, r3.2.2, o2)) else none) = some R := by
  obtain ⟨r1, r3, rfl, rfl, h1⟩ := h
  refine ⟨(r1.2.1, r1.2.2, r3.1, r3.2.1, r3.2.2, o2), ?_⟩
  simp only [Option.bind_some, fX12_thrown]
  rw [if_pos h1]
theorem p1_c20 (xs : Nat → Int32) : ∃ R, fL_case20 60000 6 xs fx_I fx_M fm_I 0 fm_M (fun _ => 0) 0 = some R := by
  unfold fL_case20
  simp only [p1_i1, p1_i2, p1_i3, p1_i4, p1_i5, if_false]
  exact p1_tS (p1_seek 60000 _ _ _ _)
theorem p1_c21 (xs : Nat → Int32) : ∃ R, fL_case21 60000 6 xs fx_I fx_M fm_I 0 fm_M (fun _ => 0) 0 = some R := by
  unfold fL_case21
  simp only [p1_i1, p1_i2, p1_i3, p1_i4, p1_i5, if_false]
  exact p1_tA (p1_on 60000 _ _)
theorem p1_c22 (xs : Nat → Int32) : ∃ R, fL_case22 60000 6 xs fx_I fx_M fm_I 0 fm_M (fun _ => 0) 0 = some R := by
  unfold fL_case22
  simp only [p1_i1, p1_i2, p1_i3, p1_i4, p1_i5, if_false]
  exact p1_tA (p1_held 60000 _ _)
set_option maxRecDepth 100000 in
theorem p1_c23 (xs : Nat → Int32) : ∃ R, fL_case23 60000 6 xs fx_I fx_M fm_I 0 fm_M (fun _ => 0) 0 = some R := ⟨_, rfl⟩
set_option maxRecDepth 100000 in
theorem p1_c24 (xs : Nat → Int32) : ∃ R, fL_case24 60000 6 xs fx_I fx_M fm_I 0 fm_M (fun _ => 0) 0 = some R := ⟨_, rfl⟩
theorem p1_c25 (xs : Nat → Int32) : ∃ R, fL_case25 60000 6 xs fx_I fx_M fm_I 0 fm_M (fun _ => 0) 0 = some R := by
  unfold fL_case25
  simp only [p1_i1, p1_i2, p1_i3, p1_i4, p1_i5, if_false]
  exact p1_tA (p1_misread 60000 _ _ _ _ _ _)
theorem p1_c26 (xs : Nat → Int32) : ∃ R, fL_case26 60000 6 xs fx_I fx_M fm_I 0 fm_M (fun _ => 0) 0 = some R := by
  unfold fL_case26
  simp only [p1_i1, p1_i2, p1_i3, p1_i4, p1_i5, if_false]
  exact p1_tA (p1_errors  _ _ _ _)
theorem p1_c27 (xs : Nat → Int32) : ∃ R, fL_case27 60000 6 xs fx_I fx_M fm_I 0 fm_M (fun _ => 0) 0 = some R := by
  unfold fL_case27
  simp only [p1_i1, p1_i2, p1_i3, p1_i4, p1_i5, if_false]
  exact p1_tA (p1_possible 60000 _ _ _ _)
theorem p1_c28 (xs : Nat → Int32) : ∃ R, fL_case28 60000 6 xs fx_I fx_M fm_I 0 fm_M (fun _ => 0) 0 = some R := by
  unfold fL_case28
  simp only [p1_i1, p1_i2, p1_i3, p1_i4, p1_i5, if_false]
  exact p1_tA (p1_slips 60000 _ _ _)
theorem p1_c29 (xs : Nat → Int32) : ∃ R, fL_case29 60000 6 xs fx_I fx_M fm_I 0 fm_M (fun _ => 0) 0 = some R := by
  unfold fL_case29
  simp only [p1_i1, p1_i2, p1_i3, p1_i4, p1_i5, if_false]
  exact p1_tA (p1_handed 60000 (by decide) _ _ _ _)
theorem p1_c30 (xs : Nat → Int32) : ∃ R, fL_case30 60000 6 xs fx_I fx_M fm_I 0 fm_M (fun _ => 0) 0 = some R := by
  unfold fL_case30
  simp only [p1_i1, p1_i2, p1_i3, p1_i4, p1_i5, if_false]
  exact p1_tA (p1_leaf 60000 (by decide) _ _ _)
theorem p1_c31 (xs : Nat → Int32) : ∃ R, fL_case31 60000 6 xs fx_I fx_M fm_I 0 fm_M (fun _ => 0) 0 = some R := by
  unfold fL_case31
  simp only [p1_i1, p1_i2, p1_i3, p1_i4, p1_i5, if_false]
  exact p1_tA (p1_order 60000 (by decide) _ _ _ _)
theorem p1_c32 (xs : Nat → Int32) : ∃ R, fL_case32 60000 6 xs fx_I fx_M fm_I 0 fm_M (fun _ => 0) 0 = some R := by
  unfold fL_case32
  simp only [p1_i1, p1_i2, p1_i3, p1_i4, p1_i5, if_false]
  exact p1_tZ (p1_same 60000 (by decide) _ _ _ _)
theorem p1_c33 (xs : Nat → Int32) : ∃ R, fL_case33 60000 6 xs fx_I fx_M fm_I 0 fm_M (fun _ => 0) 0 = some R := by
  unfold fL_case33
  simp only [p1_i1, p1_i2, p1_i3, p1_i4, p1_i5, if_false]
  exact p1_tA (p1_births 60000 (by decide) _ _ _)
theorem p1_c34 (xs : Nat → Int32) : ∃ R, fL_case34 60000 6 xs fx_I fx_M fm_I 0 fm_M (fun _ => 0) 0 = some R := p1_case34 60000 6 (by decide) xs _ 0
theorem p1_c35 (xs : Nat → Int32) : ∃ R, fL_case35 60000 6 xs fx_I fx_M fm_I 0 fm_M (fun _ => 0) 0 = some R := by
  unfold fL_case35
  simp only [p1_i1, p1_i2, p1_i3, p1_i4, p1_i5, if_false]
  exact p1_tA (p1_whence 60000 _ _)
theorem p1_c36 (xs : Nat → Int32) : ∃ R, fL_case36 60000 6 xs fx_I fx_M fm_I 0 fm_M (fun _ => 0) 0 = some R := by
  unfold fL_case36
  simp only [p1_i1, p1_i2, p1_i3, p1_i4, p1_i5, if_false]
  exact p1_tZ (p1_life 60000 _ _ _ _)
theorem p1_c37 (xs : Nat → Int32) : ∃ R, fL_case37 60000 6 xs fx_I fx_M fm_I 0 fm_M (fun _ => 0) 0 = some R := by
  unfold fL_case37
  simp only [p1_i1, p1_i2, p1_i3, p1_i4, p1_i5, if_false]
  exact p1_tZ (p1_fate 60000 _ _ _)
theorem p1_c38 (xs : Nat → Int32) : ∃ R, fL_case38 60000 6 xs fx_I fx_M fm_I 0 fm_M (fun _ => 0) 0 = some R := by
  unfold fL_case38
  simp only [p1_i1, p1_i2, p1_i3, p1_i4, p1_i5, if_false]
  exact p1_tA (p1_fates 60000 (by decide) _ _)
theorem p1_c39 (xs : Nat → Int32) : ∃ R, fL_case39 60000 6 xs fx_I fx_M fm_I 0 fm_M (fun _ => 0) 0 = some R := by
  unfold fL_case39
  simp only [p1_i1, p1_i2, p1_i3, p1_i4, p1_i5, if_false]
  exact p1_tA (p1_hits 60000 (by decide) _ _ _)
set_option maxRecDepth 10000 in
theorem p1_body (xs : Nat → Int32) : ∃ R, fL_body 60000 6 xs fx_I fx_M fm_I 0 fm_M (fun _ => 0) 0 = some R := by
  unfold fL_body
  rw [if_neg (by decide)]
  generalize (xs ((0 : Int32)).toNatClampNeg &&& (63 : Int32)) = x
  by_cases h0 : x = (0 : Int32)
  · rw [if_pos h0]; exact p1_c0 xs
  rw [if_neg h0]
  by_cases h1 : x = (1 : Int32)
  · rw [if_pos h1]; exact p1_c1 xs
  rw [if_neg h1]
  by_cases h2 : x = (2 : Int32)
  · rw [if_pos h2]; exact p1_c2 xs
  rw [if_neg h2]
  by_cases h3 : x = (3 : Int32)
  · rw [if_pos h3]; exact p1_c3 xs
  rw [if_neg h3]
  by_cases h4 : x = (4 : Int32)
  · rw [if_pos h4]; exact p1_c4 xs
  rw [if_neg h4]
  by_cases h5 : x = (5 : Int32)
  · rw [if_pos h5]; exact p1_c5 xs
  rw [if_neg h5]
  by_cases h6 : x = (6 : Int32)
  · rw [if_pos h6]; exact p1_c6 xs
  rw [if_neg h6]
  by_cases h7 : x = (7 : Int32)
  · rw [if_pos h7]; exact p1_c7 xs
  rw [if_neg h7]
  by_cases h8 : x = (8 : Int32)
  · rw [if_pos h8]; exact p1_c8 xs
  rw [if_neg h8]
  by_cases h9 : x = (9 : Int32)
  · rw [if_pos h9]; exact p1_c9 xs
  rw [if_neg h9]
  by_cases h10 : x = (10 : Int32)
  · rw [if_pos h10]; exact p1_c10 xs
  rw [if_neg h10]
  by_cases h11 : x = (11 : Int32)
  · rw [if_pos h11]; exact p1_c11 xs
  rw [if_neg h11]
  by_cases h12 : x = (12 : Int32)
  · rw [if_pos h12]; exact p1_c12 xs
  rw [if_neg h12]
  by_cases h13 : x = (13 : Int32)
  · rw [if_pos h13]; exact p1_c13 xs
  rw [if_neg h13]
  by_cases h14 : x = (14 : Int32)
  · rw [if_pos h14]; exact p1_c14 xs
  rw [if_neg h14]
  by_cases h15 : x = (15 : Int32)
  · rw [if_pos h15]; exact p1_c15 xs
  rw [if_neg h15]
  by_cases h16 : x = (16 : Int32)
  · rw [if_pos h16]; exact p1_c16 xs
  rw [if_neg h16]
  by_cases h17 : x = (17 : Int32)
  · rw [if_pos h17]; exact p1_c17 xs
  rw [if_neg h17]
  by_cases h18 : x = (18 : Int32)
  · rw [if_pos h18]; exact p1_c18 xs
  rw [if_neg h18]
  by_cases h19 : x = (19 : Int32)
  · rw [if_pos h19]; exact p1_c19 xs
  rw [if_neg h19]
  by_cases h20 : x = (20 : Int32)
  · rw [if_pos h20]; exact p1_c20 xs
  rw [if_neg h20]
  by_cases h21 : x = (21 : Int32)
  · rw [if_pos h21]; exact p1_c21 xs
  rw [if_neg h21]
  by_cases h22 : x = (22 : Int32)
  · rw [if_pos h22]; exact p1_c22 xs
  rw [if_neg h22]
  by_cases h23 : x = (23 : Int32)
  · rw [if_pos h23]; exact p1_c23 xs
  rw [if_neg h23]
  by_cases h24 : x = (24 : Int32)
  · rw [if_pos h24]; exact p1_c24 xs
  rw [if_neg h24]
  by_cases h25 : x = (25 : Int32)
  · rw [if_pos h25]; exact p1_c25 xs
  rw [if_neg h25]
  by_cases h26 : x = (26 : Int32)
  · rw [if_pos h26]; exact p1_c26 xs
  rw [if_neg h26]
  by_cases h27 : x = (27 : Int32)
  · rw [if_pos h27]; exact p1_c27 xs
  rw [if_neg h27]
  by_cases h28 : x = (28 : Int32)
  · rw [if_pos h28]; exact p1_c28 xs
  rw [if_neg h28]
  by_cases h29 : x = (29 : Int32)
  · rw [if_pos h29]; exact p1_c29 xs
  rw [if_neg h29]
  by_cases h30 : x = (30 : Int32)
  · rw [if_pos h30]; exact p1_c30 xs
  rw [if_neg h30]
  by_cases h31 : x = (31 : Int32)
  · rw [if_pos h31]; exact p1_c31 xs
  rw [if_neg h31]
  by_cases h32 : x = (32 : Int32)
  · rw [if_pos h32]; exact p1_c32 xs
  rw [if_neg h32]
  by_cases h33 : x = (33 : Int32)
  · rw [if_pos h33]; exact p1_c33 xs
  rw [if_neg h33]
  by_cases h34 : x = (34 : Int32)
  · rw [if_pos h34]; exact p1_c34 xs
  rw [if_neg h34]
  by_cases h35 : x = (35 : Int32)
  · rw [if_pos h35]; exact p1_c35 xs
  rw [if_neg h35]
  by_cases h36 : x = (36 : Int32)
  · rw [if_pos h36]; exact p1_c36 xs
  rw [if_neg h36]
  by_cases h37 : x = (37 : Int32)
  · rw [if_pos h37]; exact p1_c37 xs
  rw [if_neg h37]
  by_cases h38 : x = (38 : Int32)
  · rw [if_pos h38]; exact p1_c38 xs
  rw [if_neg h38]
  by_cases h39 : x = (39 : Int32)
  · rw [if_pos h39]; exact p1_c39 xs
  rw [if_neg h39]
  exact ⟨_, rfl⟩

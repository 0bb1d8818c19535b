theorem i64_of (x : Int32) : x.toInt64.toInt = x.toInt := Int32.toInt_toInt64 x
theorem i32_of {x : Int64} (h0 : -2147483648 ≤ x.toInt) (h1 : x.toInt ≤ 2147483647) : x.toInt32.toInt = x.toInt := by
  rw [Int64.toInt_toInt32]
  exact Int.bmod_eq_of_le (by omega) (by omega)
theorem rem32 {d p : Int32} (hd : 0 ≤ d.toInt) (hp : 1 ≤ p.toInt) : (d - d / p * p).toInt = d.toInt % p.toInt := ia_rem d p p.toInt rfl (by omega) hd
/-- the class's PLACE -/
theorem pl11 {N : Nat} {I : Nat → Int32} {M : Nat → Nat → Int32} {s k d r : Int32} (hd : 0 ≤ d.toInt) (hd2 : d.toInt ≤ 1000001) (hr : HRg (M 0 ((7 : Int32) * s + k).toNatClampNeg) (M 1 ((7 : Int32) * s + k).toNatClampNeg) (M 2 ((7 : Int32) * s + k).toNatClampNeg) (M 3 ((7 : Int32) * s + k).toNatClampNeg)) (h : fX5_placeOn N I M s k d = some r) : r.toInt = plc (M 0 ((7 : Int32) * s + k).toNatClampNeg).toInt (M 1 ((7 : Int32) * s + k).toNatClampNeg).toInt (M 2 ((7 : Int32) * s + k).toNatClampNeg).toInt (M 3 ((7 : Int32) * s + k).toNatClampNeg).toInt d.toInt := by
  unfold fX5_placeOn at h
  obtain ⟨v1, e1, h⟩ := wb_v h
  rw [← e1] at hr ⊢
  generalize hA : M 0 v1.toNatClampNeg = a at *
  generalize hG : M 1 v1.toNatClampNeg = g at *
  generalize hW : M 2 v1.toNatClampNeg = w at *
  generalize hP : M 3 v1.toNatClampNeg = p at *
  obtain ⟨⟨a0, a1⟩, ⟨g0, g1⟩, ⟨w0, w1⟩, p0, p1⟩ := hr
  obtain ⟨-, h⟩ := wb_n h
  obtain ⟨v2, e2, h⟩ := wb_v h
  obtain ⟨-, h⟩ := wb_n h
  obtain ⟨r3, e3, h⟩ := wb_b h
  obtain ⟨r4, e4, h⟩ := wb_b h
  have h := Option.some.inj h
  obtain ⟨q, eq, q1, q2, q3, q4, q5, q6⟩ := sw_rg (d := d.toInt) w0 w1 p0 p1
  -- gone
  have gd0 : 0 ≤ g.toInt * d.toInt := Int.mul_nonneg g0 hd
  have gd1 : g.toInt * d.toInt ≤ 2000000 * 1000001 := Int.mul_le_mul g1 hd2 hd (by omega)
  have n1000 : (1000 : Int64).toInt = 1000 := by decide
  have m1 : (g.toInt64 * d.toInt64).toInt = g.toInt * d.toInt := by
    rw [la_mul _ _ (by rw [i64_of, i64_of]; omega) (by rw [i64_of, i64_of]; omega), i64_of, i64_of]
  have t2 : v2.toInt = g.toInt * d.toInt / 1000 := by
    rw [e2, (la_div _ 1000 (by rw [n1000]; omega) (by rw [m1]; omega) (by rw [m1]; omega)).1 (by rw [m1]; omega), m1, n1000]
  -- swing
  have t3 : r3.toInt = q * w.toInt / p.toInt := by
    unfold fX5_swingOn at e3
    obtain ⟨-, e3⟩ := wb_n e3
    obtain ⟨u1, f1, e3⟩ := wb_v e3
    obtain ⟨-, e3⟩ := wb_n e3
    rw [hP] at f1
    rw [hW] at e3
    subst f1
    rcases ifr e3 with ⟨c, e3⟩ | ⟨c, e3⟩
    · have e3 := Option.some.inj e3
      rw [← e3, c, z64, show (0 : Int32).toInt = 0 from by decide, Int.mul_zero, Int.zero_ediv]
    · have e3 := wb_t ((le32 (by decide : (1 : Int32).toInt = 1) rfl).mpr p0) e3
      obtain ⟨-, e3⟩ := wb_n e3
      obtain ⟨u2, f2, e3⟩ := wb_v e3
      obtain ⟨u3, f3, e3⟩ := wb_v e3
      obtain ⟨-, e3⟩ := wb_n e3
      obtain ⟨u4, f4, e3⟩ := wb_b e3
      have e3 := Option.some.inj e3
      subst e3
      have tu2 : u2.toInt = d.toInt % u1.toInt := by rw [f2]; exact rem32 hd p0
      have r0 := Int.emod_nonneg d.toInt (by omega : u1.toInt ≠ 0)
      have r1 := Int.emod_lt_of_pos d.toInt (by omega : 0 < u1.toInt)
      have n2 : (2 : Int32).toInt = 2 := by decide
      have x1 := ia_mul 2 2 n2 u2 (by omega) (by omega)
      have x2 := ia_sub ((2 : Int32) * u2) u1 (by omega) (by omega)
      have n0 : (0 : Int32).toInt = 0 := by decide
      have x3 := ia_sub 0 ((2 : Int32) * u2 - u1) (by omega) (by omega)
      have tq : u3.toInt = q := by
        rw [f3, eq]
        have l2 : (2 : Int64).toInt = 2 := by decide
        by_cases z : 0 ≤ 2 * (d.toInt % u1.toInt) - u1.toInt
        · rw [if_pos z, if_pos ((le32 n0 x2).mpr (by omega))]
          rw [la_sub _ _ (by rw [la_mul _ _ (by rw [l2, i64_of]; omega) (by rw [l2, i64_of]; omega), l2, i64_of, i64_of]; omega) (by rw [la_mul _ _ (by rw [l2, i64_of]; omega) (by rw [l2, i64_of]; omega), l2, i64_of, i64_of]; omega), la_mul _ _ (by rw [l2, i64_of]; omega) (by rw [l2, i64_of]; omega), l2, i64_of, i64_of]
          omega
        · rw [if_neg z, if_neg (fun y => z (by have := (le32 n0 x2).mp y; omega))]
          rw [la_sub _ _ (by rw [la_mul _ _ (by rw [l2, i64_of]; omega) (by rw [l2, i64_of]; omega), l2, i64_of, i64_of]; omega) (by rw [la_mul _ _ (by rw [l2, i64_of]; omega) (by rw [l2, i64_of]; omega), l2, i64_of, i64_of]; omega), la_mul _ _ (by rw [l2, i64_of]; omega) (by rw [l2, i64_of]; omega), l2, i64_of, i64_of]
          omega
      have m3 : (u3 * w.toInt64).toInt = q * w.toInt := by
        rw [la_mul _ _ (by rw [tq, i64_of]; omega) (by rw [tq, i64_of]; omega), tq, i64_of]
      rw [fdv64 (by rw [i64_of]; omega) (by rw [i64_of]; omega) (by rw [m3]; omega) (by rw [m3]; omega) f4, m3, i64_of]
  have gn0 := Int.ediv_nonneg gd0 (by omega : (0 : Int) ≤ 1000)
  have gn1 := Int.ediv_le_self 1000 gd0
  have n21 : (21600 : Int64).toInt = 21600 := by decide
  have s1 := la_add a.toInt64 v2 (by rw [i64_of]; omega) (by rw [i64_of]; omega)
  rw [i64_of] at s1
  have s2 := la_add (a.toInt64 + v2) r3 (by omega) (by omega)
  have t4 := fmd64 (by rw [n21]; omega) (by rw [n21]; omega) (by omega) (by omega) e4
  rw [n21] at t4
  have b0 := Int.emod_nonneg ((a.toInt64 + v2 + r3).toInt) (by omega : (21600 : Int) ≠ 0)
  have b1 := Int.emod_lt_of_pos ((a.toInt64 + v2 + r3).toInt) (by omega : (0 : Int) < 21600)
  rw [← h, i32_of (by omega) (by omega), t4, s2, s1, t2, t3, eq]
  rfl
/-- the reference's PLACE -/
theorem pl12 {N : Nat} {J : Nat → Int32} {L : Int64} {K : Nat → Nat → Int32} {s k d r : Int32} (hd : 0 ≤ d.toInt) (hd2 : d.toInt ≤ 1000001) (hr : HRg (K 0 ((7 : Int32) * s + k).toNatClampNeg) (K 1 ((7 : Int32) * s + k).toNatClampNeg) (K 2 ((7 : Int32) * s + k).toNatClampNeg) (K 3 ((7 : Int32) * s + k).toNatClampNeg)) (h : fX12_placeOn N J L K s k d = some r) : r.toInt = plc (K 0 ((7 : Int32) * s + k).toNatClampNeg).toInt (K 1 ((7 : Int32) * s + k).toNatClampNeg).toInt (K 2 ((7 : Int32) * s + k).toNatClampNeg).toInt (K 3 ((7 : Int32) * s + k).toNatClampNeg).toInt d.toInt := by
  unfold fX12_placeOn at h
  obtain ⟨v4, e4, h⟩ := wb_v h
  rw [← e4] at hr ⊢
  obtain ⟨-, h⟩ := wb_n h
  obtain ⟨-, h⟩ := wb_n h
  obtain ⟨v5, e5, h⟩ := wb_v h
  obtain ⟨-, h⟩ := wb_n h
  obtain ⟨v6, e6, h⟩ := wb_v h
  obtain ⟨-, h⟩ := wb_n h
  obtain ⟨-, h⟩ := wb_n h
  obtain ⟨⟨a0, a1⟩, ⟨g0, g1⟩, ⟨w0, w1⟩, p0, p1⟩ := hr
  obtain ⟨q, eq, q1, q2, q3, q4, q5, q6⟩ := sw_rg (d := d.toInt) w0 w1 p0 p1
  have r0 := Int.emod_nonneg d.toInt (by omega : (K 3 v4.toNatClampNeg).toInt ≠ 0)
  have r1 := Int.emod_lt_of_pos d.toInt (by omega : 0 < (K 3 v4.toNatClampNeg).toInt)
  have l2 : (2 : Int64).toInt = 2 := by decide
  have t5 : v5.toInt = d.toInt % (K 3 v4.toNatClampNeg).toInt := by
    rw [e5, i64_of]; exact rem32 hd p0
  have t6 : v6.toInt = 2 * (d.toInt % (K 3 v4.toNatClampNeg).toInt) - (K 3 v4.toNatClampNeg).toInt := by
    have x := la_mul 2 v5 (by rw [l2]; omega) (by rw [l2]; omega)
    rw [e6, la_sub _ _ (by rw [x, l2, i64_of]; omega) (by rw [x, l2, i64_of]; omega), x, l2, i64_of, t5]
  have gd0 : 0 ≤ (K 1 v4.toNatClampNeg).toInt * d.toInt := Int.mul_nonneg g0 hd
  have gd1 : (K 1 v4.toNatClampNeg).toInt * d.toInt ≤ 2000000 * 1000001 := Int.mul_le_mul g1 hd2 hd (by omega)
  have n1000 : (1000 : Int64).toInt = 1000 := by decide
  have m1 : ((K 1 v4.toNatClampNeg).toInt64 * d.toInt64).toInt = (K 1 v4.toNatClampNeg).toInt * d.toInt := by
    rw [la_mul _ _ (by rw [i64_of, i64_of]; omega) (by rw [i64_of, i64_of]; omega), i64_of, i64_of]
  have t2 : ((K 1 v4.toNatClampNeg).toInt64 * d.toInt64 / 1000).toInt = (K 1 v4.toNatClampNeg).toInt * d.toInt / 1000 := by
    rw [(la_div _ 1000 (by rw [n1000]; omega) (by rw [m1]; omega) (by rw [m1]; omega)).1 (by rw [m1]; omega), m1, n1000]
  have gn0 := Int.ediv_nonneg gd0 (by omega : (0 : Int) ≤ 1000)
  have gn1 := Int.ediv_le_self 1000 gd0
  have s1 := la_add (K 0 v4.toNatClampNeg).toInt64 ((K 1 v4.toNatClampNeg).toInt64 * d.toInt64 / 1000) (by rw [i64_of]; omega) (by rw [i64_of]; omega)
  rw [i64_of, t2] at s1
  have key : ∀ z : Int64, z.toInt = (if 0 ≤ 2 * (d.toInt % (K 3 v4.toNatClampNeg).toInt) - (K 3 v4.toNatClampNeg).toInt then 2 * (d.toInt % (K 3 v4.toNatClampNeg).toInt) - (K 3 v4.toNatClampNeg).toInt else -(2 * (d.toInt % (K 3 v4.toNatClampNeg).toInt) - (K 3 v4.toNatClampNeg).toInt)) → fX12_placeOn_J79 N J L K s k d v4 z (2 : Int64) ((K 0 v4.toNatClampNeg).toInt64 + ((K 1 v4.toNatClampNeg).toInt64 * d.toInt64 / 1000)) = some r → r.toInt = plc (K 0 v4.toNatClampNeg).toInt (K 1 v4.toNatClampNeg).toInt (K 2 v4.toNatClampNeg).toInt (K 3 v4.toNatClampNeg).toInt d.toInt := by
    intro z ez h
    unfold fX12_placeOn_J79 at h
    obtain ⟨-, h⟩ := wb_n h
    obtain ⟨-, h⟩ := wb_n h
    obtain ⟨-, h⟩ := wb_n h
    obtain ⟨u1, f1, h⟩ := wb_b h
    obtain ⟨u2, f2, h⟩ := wb_v h
    obtain ⟨u3, f3, h⟩ := wb_v h
    rw [← ez] at eq
    have x1 := la_mul 2 z (by rw [l2]; omega) (by rw [l2]; omega)
    rw [l2] at x1
    have x2 := la_sub ((2 : Int64) * z) (K 3 v4.toNatClampNeg).toInt64 (by rw [i64_of]; omega) (by rw [i64_of]; omega)
    rw [i64_of] at x2
    have x3 := la_mul ((2 : Int64) * z - (K 3 v4.toNatClampNeg).toInt64) (K 2 v4.toNatClampNeg).toInt64 (by rw [x2, x1, i64_of, ← eq]; omega) (by rw [x2, x1, i64_of, ← eq]; omega)
    rw [x2, x1, i64_of, ← eq] at x3
    have t1 := flr64 (by rw [i64_of]; omega) (by rw [i64_of]; omega) (by rw [x3]; omega) (by rw [x3]; omega) f1
    rw [x3, i64_of] at t1
    have s2 := la_add ((K 0 v4.toNatClampNeg).toInt64 + ((K 1 v4.toNatClampNeg).toInt64 * d.toInt64 / 1000)) u1 (by rw [s1, t1]; omega) (by rw [s1, t1]; omega)
    rw [s1, t1, ← f2] at s2
    have n21 : (21600 : Int64).toInt = 21600 := by decide
    have n21' : (21600 : Int32).toInt = 21600 := by decide
    have rr := la_rem u2 21600 (by rw [n21]; omega) (by rw [n21]; omega) (by omega) (by omega)
    rw [n21] at rr
    have ep : plc (K 0 v4.toNatClampNeg).toInt (K 1 v4.toNatClampNeg).toInt (K 2 v4.toNatClampNeg).toInt (K 3 v4.toNatClampNeg).toInt d.toInt = u2.toInt % 21600 := by
      unfold plc
      rw [← ez, ← eq, s2]
    rw [ep]
    rcases Int.lt_or_le u2.toInt 0 with c | c
    · have nd := ndv c (by omega : (0 : Int) < 21600)
      have b0 := Int.emod_nonneg (-u2.toInt) (by omega : (21600 : Int) ≠ 0)
      have b1 := Int.emod_lt_of_pos (-u2.toInt) (by omega : (0 : Int) < 21600)
      have t3 : u3.toInt = -((-u2.toInt) % 21600) := by
        rw [f3, i32_of (by rw [rr.2 c]; omega) (by rw [rr.2 c]; omega), rr.2 c]
      rcases ifr h with ⟨c2, h⟩ | ⟨c2, h⟩
      · have c2 := (le32 (by decide : (0 : Int32).toInt = 0) rfl).mp c2
        have h := Option.some.inj h
        rw [← h, (nd.1 (by omega)).2]
        omega
      · have c2 : ¬ _ := fun y => c2 ((le32 (by decide : (0 : Int32).toInt = 0) rfl).mpr y)
        have h := Option.some.inj h
        rw [← h, ia_add _ _ (by omega) (by omega), n21', (nd.2 (by omega)).2]
        omega
    · have b0 := Int.emod_nonneg u2.toInt (by omega : (21600 : Int) ≠ 0)
      have b1 := Int.emod_lt_of_pos u2.toInt (by omega : (0 : Int) < 21600)
      have t3 : u3.toInt = u2.toInt % 21600 := by
        rw [f3, i32_of (by rw [rr.1 c]; omega) (by rw [rr.1 c]; omega), rr.1 c]
      have h := wb_t ((le32 (by decide : (0 : Int32).toInt = 0) rfl).mpr (by omega)) h
      have h := Option.some.inj h
      rw [← h]; exact t3
  rcases ifr h with ⟨c, h⟩ | ⟨c, h⟩
  · have c := lgc_ge.mp c
    rw [z64, t6] at c
    exact key v6 (by rw [if_pos c, t6]) h
  · have c : ¬ 0 ≤ 2 * (d.toInt % (K 3 v4.toNatClampNeg).toInt) - (K 3 v4.toNatClampNeg).toInt := fun z => c (lgc_ge.mpr (by rw [z64, t6]; exact z))
    refine key (-v6) ?_ h
    rw [if_neg c, Int64.toInt_neg, t6]
    exact Int.bmod_eq_of_le (by omega) (by omega)
/-- PLACES alike -/
theorem pl_eq {N N2 : Nat} {I J I' : Nat → Int32} {L : Int64} {M K : Nat → Nat → Int32} {s k d a b : Int32} (ht : HT I M J K) (hs : 0 ≤ s.toInt ∧ s.toInt ≤ 3) (hk : 0 ≤ k.toInt ∧ k.toInt ≤ 6) (hd : 0 ≤ d.toInt ∧ d.toInt ≤ 1000001) (h : fX5_placeOn N I' (wb_sh M 1) s k d = some a) (g : fX12_placeOn N2 J L K s k d = some b) : a = b ∧ 0 ≤ a.toInt ∧ a.toInt < 21600 := by
  have n7 : (7 : Int32).toInt = 7 := by decide
  have x1 := ia_mul 7 7 n7 s (by omega) (by omega)
  have x2 := ia_add ((7 : Int32) * s) k (by omega) (by omega)
  have hi : ((7 : Int32) * s + k).toNatClampNeg < 28 := by rw [cl32]; omega
  obtain ⟨⟨b1, b2, b3, b4⟩, br⟩ := ht.2.2.2.2.1 _ hi
  have e1 := pl11 (M := wb_sh M 1) hd.1 hd.2 (by
    show HRg (M 1 _) (M 2 _) (M 3 _) (M 4 _)
    rw [b1, b2, b3, b4]; exact br) h
  have e2 := pl12 hd.1 hd.2 br g
  have e3 : a.toInt = b.toInt := by
    rw [e1, e2]
    show plc (M 1 _).toInt (M 2 _).toInt (M 3 _).toInt (M 4 _).toInt _ = _
    rw [b1, b2, b3, b4]
  refine ⟨t32 e3, ?_⟩
  rw [e1]
  unfold plc
  exact ⟨Int.emod_nonneg _ (by omega), Int.emod_lt_of_pos _ (by omega)⟩

theorem i64_of (x : Int32) : x.toInt64.toInt = x.toInt := Int32.toInt_toInt64 x
theorem i32_of {x : Int64} (h0 : -2147483648 ≤ x.toInt) (h1 : x.toInt ≤ 2147483647) : x.toInt32.toInt = x.toInt := by
  rw [Int64.toInt_toInt32]
  exact Int.bmod_eq_of_le (by omega) (by omega)
theorem rem32 {d p : Int32} (hd : 0 ≤ d.toInt) (hp : 1 ≤ p.toInt) : (d - d / p * p).toInt = d.toInt % p.toInt := ia_rem d p p.toInt rfl (by omega) hd
/-- the class's PLACE -/
theorem pl11 {N : Nat} {I : Nat → Int32} {M : Nat → Nat → Int32} {s k d r : Int32} (hd : 0 ≤ d.toInt) (hd2 : d.toInt ≤ 1000001) (hr : HRg (M 0 ((7 : Int32) * s + k).toNatClampNeg) (M 1 ((7 : Int32) * s + k).toNatClampNeg) (M 2 ((7 : Int32) * s + k).toNatClampNeg) (M 3 ((7 : Int32) * s + k).toNatClampNeg)) (h : fX5_placeOn N I M s k d = some r) : r.toInt = plc (M 0 ((7 : Int32) * s + k).toNatClampNeg).toInt (M 1 ((7 : Int32) * s + k).toNatClampNeg).toInt (M 2 ((7 : Int32) * s + k).toNatClampNeg).toInt (M 3 ((7 : Int32) * s + k).toNatClampNeg).toInt d.toInt := by
  unfold fX5_placeOn at h
  obtain ⟨v1, e1, h⟩ := wb_v h
  rw [← e1] at hr ⊢
  generalize hA : M 0 v1.toNatClampNeg = a at *
  generalize hG : M 1 v1.toNatClampNeg = g at *
  generalize hW : M 2 v1.toNatClampNeg = w at *
  generalize hP : M 3 v1.toNatClampNeg = p at *
  obtain ⟨⟨a0, a1⟩, ⟨g0, g1⟩, ⟨w0, w1⟩, p0, p1⟩ := hr
  obtain ⟨-, h⟩ := wb_n h
  obtain ⟨v2, e2, h⟩ := wb_v h
  obtain ⟨-, h⟩ := wb_n h
  obtain ⟨r3, e3, h⟩ := wb_b h
  obtain ⟨r4, e4, h⟩ := wb_b h
  have h := Option.some.inj h
  obtain ⟨q, eq, q1, q2, q3, q4, q5, q6⟩ := sw_rg (d := d.toInt) w0 w1 p0 p1
  -- gone
  have gd0 : 0 ≤ g.toInt * d.toInt := Int.mul_nonneg g0 hd
  have gd1 : g.toInt * d.toInt ≤ 2000000 * 1000001 := Int.mul_le_mul g1 hd2 hd (by omega)
  have n1000 : (1000 : Int64).toInt = 1000 := by decide
  have m1 : (g.toInt64 * d.toInt64).toInt = g.toInt * d.toInt := by
    rw [la_mul _ _ (by rw [i64_of, i64_of]; omega) (by rw [i64_of, i64_of]; omega), i64_of, i64_of]
  have t2 : v2.toInt = g.toInt * d.toInt / 1000 := by
    rw [e2, (la_div _ 1000 (by rw [n1000]; omega) (by rw [m1]; omega) (by rw [m1]; omega)).1 (by rw [m1]; omega), m1, n1000]
  -- swing
  have t3 : r3.toInt = q * w.toInt / p.toInt := by
    unfold fX5_swingOn at e3
    obtain ⟨-, e3⟩ := wb_n e3
    obtain ⟨u1, f1, e3⟩ := wb_v e3
    obtain ⟨-, e3⟩ := wb_n e3
    rw [hP] at f1
    rw [hW] at e3
    subst f1
    rcases ifr e3 with ⟨c, e3⟩ | ⟨c, e3⟩
    · have e3 := Option.some.inj e3
      rw [← e3, c, z64, show (0 : Int32).toInt = 0 from by decide, Int.mul_zero, Int.zero_ediv]
    · have e3 := wb_t ((le32 (by decide : (1 : Int32).toInt = 1) rfl).mpr p0) e3
      obtain ⟨-, e3⟩ := wb_n e3
      obtain ⟨u2, f2, e3⟩ := wb_v e3
      obtain ⟨u3, f3, e3⟩ := wb_v e3
      obtain ⟨-, e3⟩ := wb_n e3
      obtain ⟨u4, f4, e3⟩ := wb_b e3
      have e3 := Option.some.inj e3
      subst e3
      have tu2 : u2.toInt = d.toInt % u1.toInt := by rw [f2]; exact rem32 hd p0
      have r0 := Int.emod_nonneg d.toInt (by omega : u1.toInt ≠ 0)
      have r1 := Int.emod_lt_of_pos d.toInt (by omega : 0 < u1.toInt)
      have n2 : (2 : Int32).toInt = 2 := by decide
      have x1 := ia_mul 2 2 n2 u2 (by omega) (by omega)
      have x2 := ia_sub ((2 : Int32) * u2) u1 (by omega) (by omega)
      have n0 : (0 : Int32).toInt = 0 := by decide
      have x3 := ia_sub 0 ((2 : Int32) * u2 - u1) (by omega) (by omega)
      have tq : u3.toInt = q := by
        rw [f3, eq]
        have l2 : (2 : Int64).toInt = 2 := by decide
        by_cases z : 0 ≤ 2 * (d.toInt % u1.toInt) - u1.toInt
        · rw [if_pos z, if_pos ((le32 n0 x2).mpr (by omega))]
          rw [la_sub _ _ (by rw [la_mul _ _ (by rw [l2, i64_of]; omega) (by rw [l2, i64_of]; omega), l2, i64_of, i64_of]; omega) (by rw [la_mul _ _ (by rw [l2, i64_of]; omega) (by rw [l2, i64_of]; omega), l2, i64_of, i64_of]; omega), la_mul _ _ (by rw [l2, i64_of]; omega) (by rw [l2, i64_of]; omega), l2, i64_of, i64_of]
          omega
        · rw [if_neg z, if_neg (fun y => z (by have := (le32 n0 x2).mp y; omega))]
          rw [la_sub _ _ (by rw [la_mul _ _ (by rw [l2, i64_of]; omega) (by rw [l2, i64_of]; omega), l2, i64_of, i64_of]; omega) (by rw [la_mul _ _ (by rw [l2, i64_of]; omega) (by rw [l2, i64_of]; omega), l2, i64_of, i64_of]; omega), la_mul _ _ (by rw [l2, i64_of]; omega) (by rw [l2, i64_of]; omega), l2, i64_of, i64_of]
          omega
      have m3 : (u3 * w.toInt64).toInt = q * w.toInt := by
        rw [la_mul _ _ (by rw [tq, i64_of]; omega) (by rw [tq, i64_of]; omega), tq, i64_of]
      rw [fdv64 (by rw [i64_of]; omega) (by rw [i64_of]; omega) (by rw [m3]; omega) (by rw [m3]; omega) f4, m3, i64_of]
  have gn0 := Int.ediv_nonneg gd0 (by omega : (0 : Int) ≤ 1000)
  have gn1 := Int.ediv_le_self 1000 gd0
  have n21 : (21600 : Int64).toInt = 21600 := by decide
  have s1 := la_add a.toInt64 v2 (by rw [i64_of]; omega) (by rw [i64_of]; omega)
  rw [i64_of] at s1
  have s2 := la_add (a.toInt64 + v2) r3 (by omega) (by omega)
  have t4 := fmd64 (by rw [n21]; omega) (by rw [n21]; omega) (by omega) (by omega) e4
  rw [n21] at t4
  have b0 := Int.emod_nonneg ((a.toInt64 + v2 + r3).toInt) (by omega : (21600 : Int) ≠ 0)
  have b1 := Int.emod_lt_of_pos ((a.toInt64 + v2 + r3).toInt) (by omega : (0 : Int) < 21600)
  rw [← h, i32_of (by omega) (by omega), t4, s2, s1, t2, t3, eq]
  rfl
/-- the reference's PLACE -/
theorem pl12 {N : Nat} {J : Nat → Int32} {L : Int64} {K : Nat → Nat → Int32} {s k d r : Int32} (hd : 0 ≤ d.toInt) (hd2 : d.toInt ≤ 1000001) (hr : HRg (K 0 ((7 : Int32) * s + k).toNatClampNeg) (K 1 ((7 : Int32) * s + k).toNatClampNeg) (K 2 ((7 : Int32) * s + k).toNatClampNeg) (K 3 ((7 : Int32) * s + k).toNatClampNeg)) (h : fX12_placeOn N J L K s k d = some r) : r.toInt = plc (K 0 ((7 : Int32) * s + k).toNatClampNeg).toInt (K 1 ((7 : Int32) * s + k).toNatClampNeg).toInt (K 2 ((7 : Int32) * s + k).toNatClampNeg).toInt (K 3 ((7 : Int32) * s + k).toNatClampNeg).toInt d.toInt := by
  unfold fX12_placeOn at h
  obtain ⟨v4, e4, h⟩ := wb_v h
  rw [← e4] at hr ⊢
  obtain ⟨-, h⟩ := wb_n h
  obtain ⟨-, h⟩ := wb_n h
  obtain ⟨v5, e5, h⟩ := wb_v h
  obtain ⟨-, h⟩ := wb_n h
  obtain ⟨v6, e6, h⟩ := wb_v h
  obtain ⟨-, h⟩ := wb_n h
  obtain ⟨-, h⟩ := wb_n h
  obtain ⟨⟨a0, a1⟩, ⟨g0, g1⟩, ⟨w0, w1⟩, p0, p1⟩ := hr
  obtain ⟨q, eq, q1, q2, q3, q4, q5, q6⟩ := sw_rg (d := d.toInt) w0 w1 p0 p1
  have r0 := Int.emod_nonneg d.toInt (by omega : (K 3 v4.toNatClampNeg).toInt ≠ 0)
  have r1 := Int.emod_lt_of_pos d.toInt (by omega : 0 < (K 3 v4.toNatClampNeg).toInt)
  have l2 : (2 : Int64).toInt = 2 := by decide
  have t5 : v5.toInt = d.toInt % (K 3 v4.toNatClampNeg).toInt := by
    rw [e5, i64_of]; exact rem32 hd p0
  have t6 : v6.toInt = 2 * (d.toInt % (K 3 v4.toNatClampNeg).toInt) - (K 3 v4.toNatClampNeg).toInt := by
    have x := la_mul 2 v5 (by rw [l2]; omega) (by rw [l2]; omega)
    rw [e6, la_sub _ _ (by rw [x, l2, i64_of]; omega) (by rw [x, l2, i64_of]; omega), x, l2, i64_of, t5]
  have gd0 : 0 ≤ (K 1 v4.toNatClampNeg).toInt * d.toInt := Int.mul_nonneg g0 hd
  have gd1 : (K 1 v4.toNatClampNeg).toInt * d.toInt ≤ 2000000 * 1000001 := Int.mul_le_mul g1 hd2 hd (by omega)
  have n1000 : (1000 : Int64).toInt = 1000 := by decide
  have m1 : ((K 1 v4.toNatClampNeg).toInt64 * d.toInt64).toInt = (K 1 v4.toNatClampNeg).toInt * d.toInt := by
    rw [la_mul _ _ (by rw [i64_of, i64_of]; omega) (by rw [i64_of, i64_of]; omega), i64_of, i64_of]
  have t2 : ((K 1 v4.toNatClampNeg).toInt64 * d.toInt64 / 1000).toInt = (K 1 v4.toNatClampNeg).toInt * d.toInt / 1000 := by
    rw [(la_div _ 1000 (by rw [n1000]; omega) (by rw [m1]; omega) (by rw [m1]; omega)).1 (by rw [m1]; omega), m1, n1000]
  have gn0 := Int.ediv_nonneg gd0 (by omega : (0 : Int) ≤ 1000)
  have gn1 := Int.ediv_le_self 1000 gd0
  have s1 := la_add (K 0 v4.toNatClampNeg).toInt64 ((K 1 v4.toNatClampNeg).toInt64 * d.toInt64 / 1000) (by rw [i64_of]; omega) (by rw [i64_of]; omega)
  rw [i64_of, t2] at s1
  have key : ∀ z : Int64, z.toInt = (if 0 ≤ 2 * (d.toInt % (K 3 v4.toNatClampNeg).toInt) - (K 3 v4.toNatClampNeg).toInt then 2 * (d.toInt % (K 3 v4.toNatClampNeg).toInt) - (K 3 v4.toNatClampNeg).toInt else -(2 * (d.toInt % (K 3 v4.toNatClampNeg).toInt) - (K 3 v4.toNatClampNeg).toInt)) → fX12_placeOn_J79 N J L K s k d v4 z (2 : Int64) ((K 0 v4.toNatClampNeg).toInt64 + ((K 1 v4.toNatClampNeg).toInt64 * d.toInt64 / 1000)) = some r → r.toInt = plc (K 0 v4.toNatClampNeg).toInt (K 1 v4.toNatClampNeg).toInt (K 2 v4.toNatClampNeg).toInt (K 3 v4.toNatClampNeg).toInt d.toInt := by
    intro z ez h
    unfold fX12_placeOn_J79 at h
    obtain ⟨-, h⟩ := wb_n h
    obtain ⟨-, h⟩ := wb_n h
    obtain ⟨-, h⟩ := wb_n h
    obtain ⟨u1, f1, h⟩ := wb_b h
    obtain ⟨u2, f2, h⟩ := wb_v h
    obtain ⟨u3, f3, h⟩ := wb_v h
    rw [← ez] at eq
    have x1 := la_mul 2 z (by rw [l2]; omega) (by rw [l2]; omega)
    rw [l2] at x1
    have x2 := la_sub ((2 : Int64) * z) (K 3 v4.toNatClampNeg).toInt64 (by rw [i64_of]; omega) (by rw [i64_of]; omega)
    rw [i64_of] at x2
    have x3 := la_mul ((2 : Int64) * z - (K 3 v4.toNatClampNeg).toInt64) (K 2 v4.toNatClampNeg).toInt64 (by rw [x2, x1, i64_of, ← eq]; omega) (by rw [x2, x1, i64_of, ← eq]; omega)
    rw [x2, x1, i64_of, ← eq] at x3
    have t1 := flr64 (by rw [i64_of]; omega) (by rw [i64_of]; omega) (by rw [x3]; omega) (by rw [x3]; omega) f1
    rw [x3, i64_of] at t1
    have s2 := la_add ((K 0 v4.toNatClampNeg).toInt64 + ((K 1 v4.toNatClampNeg).toInt64 * d.toInt64 / 1000)) u1 (by rw [s1, t1]; omega) (by rw [s1, t1]; omega)
    rw [s1, t1, ← f2] at s2
    have n21 : (21600 : Int64).toInt = 21600 := by decide
    have n21' : (21600 : Int32).toInt = 21600 := by decide
    have rr := la_rem u2 21600 (by rw [n21]; omega) (by rw [n21]; omega) (by omega) (by omega)
    rw [n21] at rr
    have ep : plc (K 0 v4.toNatClampNeg).toInt (K 1 v4.toNatClampNeg).toInt (K 2 v4.toNatClampNeg).toInt (K 3 v4.toNatClampNeg).toInt d.toInt = u2.toInt % 21600 := by
      unfold plc
      rw [← ez, ← eq, s2]
    rw [ep]
    rcases Int.lt_or_le u2.toInt 0 with c | c
    · have nd := ndv c (by omega : (0 : Int) < 21600)
      have b0 := Int.emod_nonneg (-u2.toInt) (by omega : (21600 : Int) ≠ 0)
      have b1 := Int.emod_lt_of_pos (-u2.toInt) (by omega : (0 : Int) < 21600)
      have t3 : u3.toInt = -((-u2.toInt) % 21600) := by
        rw [f3, i32_of (by rw [rr.2 c]; omega) (by rw [rr.2 c]; omega), rr.2 c]
      rcases ifr h with ⟨c2, h⟩ | ⟨c2, h⟩
      · have c2 := (le32 (by decide : (0 : Int32).toInt = 0) rfl).mp c2
        have h := Option.some.inj h
        rw [← h, (nd.1 (by omega)).2]
        omega
      · have c2 : ¬ _ := fun y => c2 ((le32 (by decide : (0 : Int32).toInt = 0) rfl).mpr y)
        have h := Option.some.inj h
        rw [← h, ia_add _ _ (by omega) (by omega), n21', (nd.2 (by omega)).2]
        omega
    · have b0 := Int.emod_nonneg u2.toInt (by omega : (21600 : Int) ≠ 0)
      have b1 := Int.emod_lt_of_pos u2.toInt (by omega : (0 : Int) < 21600)
      have t3 : u3.toInt = u2.toInt % 21600 := by
        rw [f3, i32_of (by rw [rr.1 c]; omega) (by rw [rr.1 c]; omega), rr.1 c]
      have h := wb_t ((le32 (by decide : (0 : Int32).toInt = 0) rfl).mpr (by omega)) h
      have h := Option.some.inj h
      rw [← h]; exact t3
  rcases ifr h with ⟨c, h⟩ | ⟨c, h⟩
  · have c := lgc_ge.mp c
    rw [z64, t6] at c
    exact key v6 (by rw [if_pos c, t6]) h
  · have c : ¬ 0 ≤ 2 * (d.toInt % (K 3 v4.toNatClampNeg).toInt) - (K 3 v4.toNatClampNeg).toInt := fun z => c (lgc_ge.mpr (by rw [z64, t6]; exact z))
    refine key (-v6) ?_ h
    rw [if_neg c, Int64.toInt_neg, t6]
    exact Int.bmod_eq_of_le (by omega) (by omega)
/-- PLACES alike -/
theorem pl_eq {N N2 : Nat} {I J I' : Nat → Int32} {L : Int64} {M K : Nat → Nat → Int32} {s k d a b : Int32} (ht : HT I M J K) (hs : 0 ≤ s.toInt ∧ s.toInt ≤ 3) (hk : 0 ≤ k.toInt ∧ k.toInt ≤ 6) (hd : 0 ≤ d.toInt ∧ d.toInt ≤ 1000001) (h : fX5_placeOn N I' (wb_sh M 1) s k d = some a) (g : fX12_placeOn N2 J L K s k d = some b) : a = b ∧ 0 ≤ a.toInt ∧ a.toInt < 21600 := by
  have n7 : (7 : Int32).toInt = 7 := by decide
  have x1 := ia_mul 7 7 n7 s (by omega) (by omega)
  have x2 := ia_add ((7 : Int32) * s) k (by omega) (by omega)
  have hi : ((7 : Int32) * s + k).toNatClampNeg < 28 := by rw [cl32]; omega
  obtain ⟨⟨b1, b2, b3, b4⟩, br⟩ := ht.2.2.2.2.1 _ hi
  have e1 := pl11 (M := wb_sh M 1) hd.1 hd.2 (by
    show HRg (M 1 _) (M 2 _) (M 3 _) (M 4 _)
    rw [b1, b2, b3, b4]; exact br) h
  have e2 := pl12 hd.1 hd.2 br g
  have e3 : a.toInt = b.toInt := by
    rw [e1, e2]
    show plc (M 1 _).toInt (M 2 _).toInt (M 3 _).toInt (M 4 _).toInt _ = _
    rw [b1, b2, b3, b4]
  refine ⟨t32 e3, ?_⟩
  rw [e1]
  unfold plc
  exact ⟨Int.emod_nonneg _ (by omega), Int.emod_lt_of_pos _ (by omega)⟩
/-! HANDS and COSTS of both -/
theorem nI_self {x : Int32} (h : 0 ≤ x.toInt) : x = nI x.toInt.toNat := by
  apply t32
  have := Int32.toInt_lt x
  rw [nI_toInt (by omega)]
  omega
/-- bounds that cut a COST alike -/
def BN (a b : Int32) : Prop := a = b ∨ (93 ≤ a.toInt ∧ 93 ≤ b.toInt)
theorem BN.lt {a b c : Int32} (h : BN a b) (hc : c.toInt ≤ 93) : a < c ↔ b < c := by
  rcases h with h | ⟨h1, h2⟩
  · rw [h]
  · constructor
    · intro z
      have := (lt32 rfl rfl).mp z
      omega
    · intro z
      have := (lt32 rfl rfl).mp z
      omega
theorem dv60 {x : Int32} (h : 0 ≤ x.toInt) (h2 : x.toInt < 21600) : 0 ≤ (x / 60).toInt ∧ (x / 60).toInt ≤ 359 := by
  have n60 : (60 : Int32).toInt = 60 := by decide
  have a := ia_div x 60 60 n60 (by omega) h
  omega
/-! checks of arguments, class and reference -/
theorem wI_n (x a b : Int32) (la lb : Int) (ha : a.toInt = la) (hb : b.toInt = lb) : (wI x a b = 1 ∧ la ≤ x.toInt ∧ x.toInt ≤ lb) ∨ (wI x a b = 0 ∧ ¬ (la ≤ x.toInt ∧ x.toInt ≤ lb)) := by
  rw [← ha, ← hb]
  exact wI_c x a b
theorem ck_within {N : Nat} {x a b r : Int32} (la lb : Int) (ha : a.toInt = la) (hb : b.toInt = lb) (h : fX11_within N x a b = some r) : (r = 1 ∧ la ≤ x.toInt ∧ x.toInt ≤ lb) ∨ (r = 0 ∧ ¬ (la ≤ x.toInt ∧ x.toInt ≤ lb)) := by
  rw [wn11] at h
  rw [← Option.some.inj h]
  exact wI_n x a b la lb ha hb
theorem ck_within12 {N : Nat} {x a b r : Int32} (la lb : Int) (ha : a.toInt = la) (hb : b.toInt = lb) (h : fX12_within N x a b = some r) : (r = 1 ∧ la ≤ x.toInt ∧ x.toInt ≤ lb) ∨ (r = 0 ∧ ¬ (la ≤ x.toInt ∧ x.toInt ≤ lb)) := ck_within (N := N) la lb ha hb h
theorem ck_isDay {N : Nat} {x r : Int32} (h : fX11_isDay N x = some r) : (r = 1 ∧ 0 ≤ x.toInt ∧ x.toInt ≤ 1000000) ∨ (r = 0 ∧ ¬ (0 ≤ x.toInt ∧ x.toInt ≤ 1000000)) := by
  unfold fX11_isDay at h
  obtain ⟨r1, e1, h⟩ := wb_b h
  have h := Option.some.inj (wb_y h).2
  subst h
  exact ck_within 0 1000000 (by decide) (by decide) e1
/-- the relation does not see the reference's 'thrown' -/
theorem RR.j0 {I0 I1 : Nat → Int32} {M0 M1 : Nat → Nat → Int32} (h : RR I0 M0 I1 M1) (v : Int32) : RR I0 M0 (upd I1 0 v) M1 := h
/-! CLIMBS and their PLACES, of both -/
theorem psm_sm {f : Nat → Int32} {o : Nat} : ∀ n, psm f o n = sm f o n := by
  intro n
  induction n with
  | zero => rfl
  | succ n ih =>
    show psm f o n + (f (o + n)).toInt = sm f o n + (f (o + n)).toInt
    rw [ih]
/-- a told CLIMATE of both -/
def CL (m5 k4 : Nat → Int32) (c : Nat) : Prop := c < 7 ∧ (∀ s : Nat, s ≤ 12 → (m5 (13 * c + s)).toInt = psm k4 (12 * c) s) ∧ (∀ z : Nat, z < 12 → 1 ≤ (k4 (12 * c + z)).toInt ∧ (k4 (12 * c + z)).toInt ≤ 3600) ∧ psm k4 (12 * c) 12 = 3600
theorem CL.of {I J : Nat → Int32} {M K : Nat → Nat → Int32} (ht : HT I M J K) (k1 : RS (J 1) (K 4)) {c : Nat} (hc : (c : Int) < (J 1).toInt) : CL (M 5) (K 4) c := by
  obtain ⟨h1, h2, h3, h4, h5, h6, h7⟩ := ht
  have rv := k1 c hc
  exact ⟨by omega, h6.2 c hc, rv.1, by rw [psm_sm]; exact rv.2⟩
theorem CL.mono {m5 k4 : Nat → Int32} {c : Nat} (h : CL m5 k4 c) : ∀ d s : Nat, s + d ≤ 12 → psm k4 (12 * c) s + (d : Int) ≤ psm k4 (12 * c) (s + d) := by
  intro d
  induction d with
  | zero => intro s hs; simp
  | succ d ih =>
    intro s hs
    have a := ih s (by omega)
    have b := (h.2.2.1 (s + d) (by omega)).1
    show _ ≤ psm k4 (12 * c) (s + d) + (k4 (12 * c + (s + d))).toInt
    omega
theorem CL.rg {m5 k4 : Nat → Int32} {c : Nat} (h : CL m5 k4 c) {s : Nat} (hs : s ≤ 12) : (s : Int) ≤ psm k4 (12 * c) s ∧ psm k4 (12 * c) s ≤ 3600 - (12 - (s : Int)) := by
  have a := h.mono s 0 (by omega)
  have b := h.mono (12 - s) s (by omega)
  rw [Nat.zero_add] at a
  rw [show s + (12 - s) = 12 by omega, h.2.2.2] at b
  have z : psm k4 (12 * c) 0 = 0 := rfl
  omega
theorem i13 {x : Int32} {c s : Nat} (hx : x.toInt = (c : Int)) (hc : c < 7) {y : Int32} (hy : y.toInt = (s : Int)) (hs : s ≤ 13) : ((13 : Int32) * x + y).toInt = ((13 * c + s : Nat) : Int) ∧ ((13 : Int32) * x + y).toNatClampNeg = 13 * c + s ∧ ((13 : Int32) * x + y + 1).toNatClampNeg = 13 * c + (s + 1) := by
  have n13 : (13 : Int32).toInt = 13 := by decide
  have n1 : (1 : Int32).toInt = 1 := by decide
  have x1 := ia_mul 13 13 n13 x (by omega) (by omega)
  have x2 := ia_add ((13 : Int32) * x) y (by omega) (by omega)
  have x3 := ia_add ((13 : Int32) * x + y) 1 (by omega) (by omega)
  rw [cl32, cl32]
  omega
theorem i12 {x : Int32} {c s : Nat} (hx : x.toInt = (c : Int)) (hc : c < 7) {y : Int32} (hy : y.toInt = (s : Int)) (hs : s ≤ 13) : ((12 : Int32) * x + y).toNatClampNeg = 12 * c + s := by
  have n12 : (12 : Int32).toInt = 12 := by decide
  have x1 := ia_mul 12 12 n12 x (by omega) (by omega)
  have x2 := ia_add ((12 : Int32) * x) y (by omega) (by omega)
  rw [cl32]
  omega
/-! answers of both, from what the class's method and the reference's say -/
theorem fin_1sx {P : (Nat → Int32) → (Nat → Nat → Int32) → Prop} {x : Option (Nat ⊕ (Int32 × (Nat → Int32) × (Nat → Nat → Int32)))} {I : Nat → Int32} {M : Nat → Nat → Int32} {o : Nat → Int64} {r : Int32 × (Nat → Int32) × (Nat → Nat → Int32) × (Nat → Int64)} {j s : Int32} (h : wb_hp x (fun k => if k = 1 then some ((1 : Int32), I, M, o) else none) (fun r => (some (vp_updL o ((0 : Int32)).toNatClampNeg r.1.toInt64)).bind fun o1 => some ((0 : Int32), r.2.1, r.2.2, o1)) = some r) (key : ∀ q, x = some q → (q = .inl 1 ∧ j = 1 ∧ P I M) ∨ ∃ a, q = .inr a ∧ j = 0 ∧ a.1 = s ∧ P a.2.1 a.2.2) : (j = r.1 ∧ (r.1 = 0 → r.2.2.2 0 = s.toInt64)) ∧ P r.2.1 r.2.2.1 := by
  rcases fr_hp h with ⟨k, e, h⟩ | ⟨a, e, h⟩
  · obtain ⟨c, h⟩ := wb_y h
    have h := Option.some.inj h
    rcases key _ e with ⟨-, w, p⟩ | ⟨a, w, -⟩
    · rw [← h]
      exact ⟨⟨w, fun z => absurd z (by show ¬ (1 : Int32) = 0; decide)⟩, p⟩
    · cases w
  · obtain ⟨o1, eo, h⟩ := wb_v h
    have h := Option.some.inj h
    rcases key _ e with ⟨w, -⟩ | ⟨a2, w, w2, w3, p⟩
    · cases w
    · have w := Sum.inr.inj w
      rw [← h]
      rw [← w] at w3 p
      refine ⟨⟨w2, fun _ => ?_⟩, p⟩
      show o1 0 = _
      rw [eo, ← w3]
      rfl
theorem fin_1s {x : Option (Nat ⊕ (Int32 × (Nat → Int32) × (Nat → Nat → Int32)))} {I : Nat → Int32} {M : Nat → Nat → Int32} {o : Nat → Int64} {r : Int32 × (Nat → Int32) × (Nat → Nat → Int32) × (Nat → Int64)} {j s : Int32} (h : wb_hp x (fun k => if k = 1 then some ((1 : Int32), I, M, o) else none) (fun r => (some (vp_updL o ((0 : Int32)).toNatClampNeg r.1.toInt64)).bind fun o1 => some ((0 : Int32), r.2.1, r.2.2, o1)) = some r) (key : ∀ q, x = some q → (q = .inl 1 ∧ j = 1) ∨ ∃ a, q = .inr a ∧ j = 0 ∧ a.1 = s) : j = r.1 ∧ (r.1 = 0 → r.2.2.2 0 = s.toInt64) :=
  (fin_1sx (P := fun _ _ => True) h (fun q e => by
    rcases key q e with ⟨a, b⟩ | ⟨a, b, c, d⟩
    · exact Or.inl ⟨a, b, trivial⟩
    · exact Or.inr ⟨a, b, c, d, trivial⟩)).1
/-! counts of both -/
/-- a loop that adds: what it adds, as a sum -/
noncomputable def sm2 (d : Nat → Int32) : Nat → Int32
  | 0 => 0
  | n + 1 => sm2 d n + d n
theorem ad32 (a b c : Int32) : a + b + c = a + c + b := by rw [Int32.add_assoc, Int32.add_comm b c, ← Int32.add_assoc]
theorem ac32 {a b c : Int32} (h : a + c = b + c) : a = b := by
  have := congrArg (fun z => z + -c) h
  simp only [Int32.add_assoc, Int32.add_right_neg, Int32.add_zero] at this
  exact this
/-- from o to n by one: what comes of it -/
theorem lp_acc {α : Type} {F : Nat → Int32 → Int32 → Option α} {d : Nat → Int32} {n o : Nat} {Q : Int32 → α → Prop} (z : ∀ v i a, ¬ F 0 v i = some a) (e : ∀ fu v a, F (fu + 1) v (nI n) = some a → Q v a) (st : ∀ fu v k a, o ≤ k → k < n → F (fu + 1) v (nI k) = some a → F fu (v + d k) (nI (k + 1)) = some a) : ∀ fu v k a, o ≤ k → k ≤ n → F fu v (nI k) = some a → ∃ w, Q w a ∧ w + sm2 d k = v + sm2 d n := by
  intro fu
  induction fu with
  | zero => intro v k a h1 h2 h; exact absurd h (z _ _ _)
  | succ fu ih =>
    intro v k a h1 h2 h
    rcases Nat.lt_or_ge k n with c | c
    · obtain ⟨w, q, e2⟩ := ih (v + d k) (k + 1) a (by omega) c (st fu v k a h1 c h)
      refine ⟨w, q, ac32 (c := d k) ?_⟩
      have e2 : w + (sm2 d k + d k) = v + d k + sm2 d n := e2
      rw [Int32.add_assoc, e2, ad32]
    · have hk : k = n := by omega
      subst hk
      exact ⟨v, e fu v a h, rfl⟩
theorem z32 (x : Int32) : x + 0 = x := Int32.add_zero x
/-- the outcomes told, of both -/
noncomputable def OR (M K : Nat → Nat → Int32) : Prop := ∀ j : Nat, j < 20 → M 28 j = K 32 j ∧ (-1 ≤ (M 28 j).toInt ∧ (M 28 j).toInt ≤ 120) ∧ (¬ M 28 j = -1 → M 29 j = K 33 j ∧ 0 ≤ (M 29 j).toInt ∧ (M 29 j).toInt ≤ 120) ∧ M 30 j = K 34 j ∧ -1 ≤ (M 30 j).toInt ∧ (M 30 j).toInt ≤ 12
/-! SEARCHES of both -/
theorem ni0 : (0 : Int32).toInt = 0 := by decide
noncomputable def QS (i m0 k : Nat → Int32) : Prop := i 1 = k 0 ∧ i 2 = k 1 ∧ i 3 = k 2 ∧ (0 ≤ (i 1).toInt ∧ (i 1).toInt ≤ 119) ∧ (0 ≤ (i 2).toInt ∧ (i 2).toInt ≤ 3) ∧ (0 ≤ (i 3).toInt ∧ (i 3).toInt ≤ 1000001) ∧ ((i 4 = 1000 ∧ i 5 = 0 ∧ i 6 = -1 ∧ k 3 = -1 ∧ k 4 = 0 ∧ k 5 = -1 ∧ k 6 = -1) ∨ (i 4 = k 3 ∧ (0 ≤ (i 4).toInt ∧ (i 4).toInt ≤ 93) ∧ i 5 = k 4 ∧ 1 ≤ (i 5).toInt ∧ (i 5).toInt ≤ (i 3).toInt ∧ m0 0 = k 5 ∧ i 6 = k 6))
/-! MIXED DAYS of both -/
/-- by which SETS a WANDERER is at its DEGREE -/
theorem dgo {N N2 : Nat} {I J : Nat → Int32} {L : Int64} {M K : Nat → Nat → Int32} {s k d a b : Int32} {I' : Nat → Int32} (ht : HT I M J K) (hs : 0 ≤ s.toInt ∧ s.toInt ≤ 3) (hk : 0 ≤ k.toInt ∧ k.toInt ≤ 6) (hd : 0 ≤ d.toInt ∧ d.toInt ≤ 1000001) (h : fX5_degreeOn N I' (wb_sh M 1) s k d = some a) (g : fX12_placeOn N2 J L K s k d = some b) : a = b / 60 ∧ 0 ≤ a.toInt ∧ a.toInt ≤ 359 := by
  unfold fX5_degreeOn at h
  obtain ⟨p, e, h⟩ := wb_b h
  obtain ⟨q, p0, p1⟩ := pl_eq ht hs hk hd e g
  have z := dv60 p0 p1
  rw [← Option.some.inj h, q]
  rw [q] at z
  exact ⟨rfl, z⟩
/-! ERRORS of both -/
noncomputable def bb (p q r s : Bool) : Int32 := nI ((if p then 1 else 0) + (if q then 2 else 0) + (if r then 4 else 0) + (if s then 8 else 0))
/-- a DEGREE by a SET, as the class reads it -/
theorem sa_st {N : Nat} {I : Nat → Int32} {m : Nat → Nat → Int32} {x k d : Int32} {fu : Nat} {v y a : Int32} (hy : ¬ (4 : Int32) ≤ y) (h : fX3_setsAt_L6 N I m x k d (fu + 1) v y = some a) : ∃ r, fX5_degreeOn N I m y k d = some r ∧ fX3_setsAt_L6 N I m x k d fu (if r = x then v ||| ((1 : Int32) <<< (y &&& 31)) else v) (y + 1) = some a := by
  rw [fX3_setsAt_L6.eq_2] at h
  have h := wb_f hy h
  obtain ⟨r, e, h⟩ := wb_b h
  refine ⟨r, e, ?_⟩
  rcases ifr h with ⟨c, h⟩ | ⟨c, h⟩
  · obtain ⟨u, f, h⟩ := wb_v h
    obtain ⟨w, g, h⟩ := wb_v h
    rw [f, g] at h
    rw [if_pos c]
    exact h
  · obtain ⟨w, g, h⟩ := wb_v h
    rw [g] at h
    rw [if_neg c]
    exact h
theorem sa4 {N : Nat} {I : Nat → Int32} {m : Nat → Nat → Int32} {x k d a : Int32} (h : fX3_setsAt N I m x k d = some a) : ∃ d0 d1 d2 d3, fX5_degreeOn N I m 0 k d = some d0 ∧ fX5_degreeOn N I m 1 k d = some d1 ∧ fX5_degreeOn N I m 2 k d = some d2 ∧ fX5_degreeOn N I m 3 k d = some d3 ∧ a = bb (decide (d0 = x)) (decide (d1 = x)) (decide (d2 = x)) (decide (d3 = x)) := by
  unfold fX3_setsAt at h
  have nz : ∀ (fu : Nat) (v y : Int32), fX3_setsAt_L6 N I m x k d fu v y = some a → ∃ f, fu = f + 1 := by
    intro fu v y h
    cases fu with
    | zero => cases (show none = some a from h)
    | succ f => exact ⟨f, rfl⟩
  obtain ⟨f0, e0⟩ := nz _ _ _ h
  rw [show fX3_setsAt_L6 N I m x k d N = fX3_setsAt_L6 N I m x k d (f0 + 1) from by rw [← e0]] at h
  obtain ⟨d0, g0, h⟩ := sa_st (by decide) h
  obtain ⟨f1, e1⟩ := nz _ _ _ h
  rw [e1] at h
  obtain ⟨d1, g1, h⟩ := sa_st (by decide) h
  obtain ⟨f2, e2⟩ := nz _ _ _ h
  rw [e2] at h
  obtain ⟨d2, g2, h⟩ := sa_st (by decide) h
  obtain ⟨f3, e3⟩ := nz _ _ _ h
  rw [e3] at h
  obtain ⟨d3, g3, h⟩ := sa_st (by decide) h
  obtain ⟨f4, e4⟩ := nz _ _ _ h
  rw [e4, fX3_setsAt_L6.eq_2] at h
  have h := Option.some.inj (wb_t (by decide) h)
  refine ⟨d0, d1, d2, d3, g0, g1, g2, g3, ?_⟩
  rw [← h]
  by_cases p0 : d0 = x <;> by_cases p1 : d1 = x <;> by_cases p2 : d2 = x <;> by_cases p3 : d3 = x <;> simp only [p0, p1, p2, p3, if_true, if_false, decide_true, decide_false] <;> decide
/-- what the class holds of a WANDERER -/
noncomputable def Cd (N : Nat) (I2 : Nat → Int32) (m2 : Nat → Nat → Int32) (I1 : Nat → Int32) (m1 : Nat → Nat → Int32) (n d : Int32) (k : Nat) (c : Int32) : Prop := ∃ r, fX1_degreeOf N I2 m2 n (nI k) = some r ∧ ((r = -1 ∧ c = -1) ∨ (¬ r = -1 ∧ ∃ d0 d1 d2 d3, fX5_degreeOn N I1 m1 0 (nI k) d = some d0 ∧ fX5_degreeOn N I1 m1 1 (nI k) d = some d1 ∧ fX5_degreeOn N I1 m1 2 (nI k) d = some d2 ∧ fX5_degreeOn N I1 m1 3 (nI k) d = some d3 ∧ ((d0 = r ∧ c = -1) ∨ (¬ d0 = r ∧ c = bb false (decide (d1 = r)) (decide (d2 = r)) (decide (d3 = r))))))
theorem bb1 : ∀ q r s : Bool, (bb true q r s &&& 1) = 1 ∧ ¬ (bb false q r s &&& 1) = 1 := by decide
theorem ss_l {N : Nat} {I1 : Nat → Int32} {m1 : Nat → Nat → Int32} {I2 : Nat → Int32} {m2 : Nat → Nat → Int32} {n d : Int32} : ∀ (fu y : Nat) (I : Nat → Int32) (M : Nat → Nat → Int32) R, fX3_setSharers_L3 N I1 m1 I2 m2 n d fu I M (nI y) = some R → y ≤ 7 → (∀ k, k < y → Cd N I2 m2 I1 m1 n d k (M 0 k)) → ∀ k, k < 7 → Cd N I2 m2 I1 m1 n d k (R.2 0 k) := by
  have n7 : (7 : Int32).toInt = 7 := by decide
  intro fu
  induction fu with
  | zero => intro y I M R h; cases (show none = some R from h)
  | succ fu ih =>
    intro y I M R h hy hk
    rw [fX3_setSharers_L3.eq_2] at h
    have ty : (nI y).toInt = (y : Int) := nI_toInt (by omega)
    have cy : (nI y).toNatClampNeg = y := nI_clamp (by omega)
    rcases ifr h with ⟨c, h⟩ | ⟨c, h⟩
    · have c := (le32 n7 ty).mp c
      have h := Option.some.inj h
      rw [← h]
      have e : y = 7 := by omega
      subst e
      exact hk
    · have c : ¬ _ := fun z => c ((le32 n7 ty).mpr z)
      have put : ∀ v : Int32, Cd N I2 m2 I1 m1 n d y v → ∀ (w : Int32), w = nI y + 1 → fX3_setSharers_L3 N I1 m1 I2 m2 n d fu I (wb_um M 0 y v) w = some R → ∀ k, k < 7 → Cd N I2 m2 I1 m1 n d k (R.2 0 k) := by
        intro v hv w ew h
        rw [ew, nI_1] at h
        refine ih (y + 1) I (wb_um M 0 y v) R h (by omega) (fun k hk2 => ?_)
        show Cd N I2 m2 I1 m1 n d k (upd (M 0) y v k)
        unfold upd
        by_cases e : k = y
        · rw [if_pos e, e]; exact hv
        · rw [if_neg e]; exact hk k (by omega)
      have j39 : ∀ z : Int32, fX3_setSharers_J39 N I1 m1 I2 m2 n d (fun q0 q1 q2 => fX3_setSharers_L3 N I1 m1 I2 m2 n d fu q0 q1 q2) I M (nI y) z = some R → ((z &&& 1) = 1 → Cd N I2 m2 I1 m1 n d y (-1)) → (¬ (z &&& 1) = 1 → Cd N I2 m2 I1 m1 n d y z) → ∀ k, k < 7 → Cd N I2 m2 I1 m1 n d k (R.2 0 k) := by
        intro z h k1 k2
        unfold fX3_setSharers_J39 at h
        rw [cy] at h
        rcases ifr h with ⟨e, h⟩ | ⟨e, h⟩
        · obtain ⟨-, h⟩ := wb_n h
          obtain ⟨m3, f3, h⟩ := wb_v h
          obtain ⟨w4, f4, h⟩ := wb_v h
          rw [f3] at h
          exact put (-1) (k1 e) w4 f4 h
        · obtain ⟨-, h⟩ := wb_n h
          obtain ⟨m3, f3, h⟩ := wb_v h
          obtain ⟨w4, f4, h⟩ := wb_v h
          rw [f3] at h
          exact put z (k2 e) w4 f4 h
      obtain ⟨r5, e5, h⟩ := wb_b h
      rcases ifr h with ⟨e, h⟩ | ⟨e, h⟩
      · exact j39 1 h (fun _ => ⟨r5, e5, Or.inl ⟨e, rfl⟩⟩) (fun z => absurd (show ((1 : Int32) &&& 1) = 1 by decide) z)
      · obtain ⟨r6, e6, h⟩ := wb_b h
        obtain ⟨d0, d1, d2, d3, g0, g1, g2, g3, ea⟩ := sa4 e6
        refine j39 r6 h (fun z => ?_) (fun z => ?_)
        · refine ⟨r5, e5, Or.inr ⟨e, d0, d1, d2, d3, g0, g1, g2, g3, Or.inl ⟨?_, rfl⟩⟩⟩
          by_cases p : d0 = r5
          · exact p
          · rw [ea, decide_eq_false p] at z
            exact absurd z (bb1 _ _ _).2
        · refine ⟨r5, e5, Or.inr ⟨e, d0, d1, d2, d3, g0, g1, g2, g3, Or.inr ?_⟩⟩
          by_cases p : d0 = r5
          · rw [ea, decide_eq_true p] at z
            exact absurd (bb1 _ _ _).1 z
          · refine ⟨p, ?_⟩
            rw [ea, decide_eq_false p]
/-- what a WANDERER adds -/
noncomputable def ecf (c : Int32) : Int32 := if c = -1 then 0 else 1
noncomputable def scf (s c : Int32) : Int32 := if c = -1 then 0 else if ((c >>> (s &&& 31)) &&& 1) = 1 then 1 else 0
noncomputable def acf (s c : Int32) : Int32 := if c = ((1 : Int32) <<< (s &&& 31)) then 1 else 0
noncomputable def wcf (s c : Int32) : Int32 := if scf s c = 0 then 0 else if (fJ6_bitCount_0f7a4 0 c).getD 0 ≤ 0 then 0 else 6 / (fJ6_bitCount_0f7a4 0 c).getD 0
theorem er_n {N : Nat} {I : Nat → Int32} {M : Nat → Nat → Int32} {a : Int32} (h : fX3_howManyErrors N I M = some a) : a = sm2 (fun k => ecf (M 0 k)) 7 := by
  unfold fX3_howManyErrors at h
  obtain ⟨w, q, e⟩ := lp_acc (F := fun fu v y => fX3_howManyErrors_L4 N I M fu v y) (d := fun k => ecf (M 0 k)) (n := 7) (o := 0) (Q := fun w a => a = w) (fun v y a z => by cases (show none = some a from z)) (fun fu v a h => by
      have h : fX3_howManyErrors_L4 N I M (fu + 1) v (nI 7) = some a := h
      rw [fX3_howManyErrors_L4.eq_2] at h
      exact (Option.some.inj (wb_t (by decide) h)).symm) (fun fu v k a _ hk h => by
      have h : fX3_howManyErrors_L4 N I M (fu + 1) v (nI k) = some a := h
      rw [fX3_howManyErrors_L4.eq_2, nI_clamp (by omega)] at h
      have h := wb_f (nI_ge (a := k) (b := 7) hk (by omega)) h
      obtain ⟨-, h⟩ := wb_n h
      show fX3_howManyErrors_L4 N I M fu (v + ecf (M 0 k)) (nI (k + 1)) = some a
      unfold ecf
      rcases ifr h with ⟨c, h⟩ | ⟨c, h⟩
      · obtain ⟨u, f, h⟩ := wb_v h
        rw [f, nI_1] at h
        rw [if_pos c, z32]
        exact h
      · obtain ⟨u, f, h⟩ := wb_v h
        obtain ⟨u2, f2, h⟩ := wb_v h
        rw [f, f2, nI_1] at h
        rw [if_neg c]
        exact h) N 0 0 a (by omega) (by omega) h
  rw [q]
  have e : w + 0 = 0 + sm2 (fun k => ecf (M 0 k)) 7 := e
  rw [z32, Int32.zero_add] at e
  exact e
theorem shd {N : Nat} {I : Nat → Int32} {M : Nat → Nat → Int32} {k : Nat} (hk : k < 7) {s a : Int32} (h : fX3_isShared N I M (nI k) s = some a) : a = scf s (M 0 k) := by
  unfold fX3_isShared at h
  rw [nI_clamp (by omega)] at h
  obtain ⟨-, h⟩ := wb_n h
  unfold scf
  rcases ifr h with ⟨c, h⟩ | ⟨c, h⟩
  · rw [if_pos c]; exact (Option.some.inj h).symm
  · obtain ⟨-, h⟩ := wb_n h
    rw [if_neg c]
    rcases ifr h with ⟨c2, h⟩ | ⟨c2, h⟩
    · rw [if_pos c2]; exact (Option.some.inj h).symm
    · rw [if_neg c2]; exact (Option.some.inj h).symm
theorem sc01 (s c : Int32) : scf s c = 0 ∨ scf s c = 1 := by
  unfold scf
  by_cases h : c = -1
  · rw [if_pos h]; exact Or.inl rfl
  · rw [if_neg h]
    by_cases h2 : ((c >>> (s &&& 31)) &&& 1) = 1
    · rw [if_pos h2]; exact Or.inr rfl
    · rw [if_neg h2]; exact Or.inl rfl
theorem er_s {N : Nat} {I : Nat → Int32} {M : Nat → Nat → Int32} {s a : Int32} (h : fX3_howManyShared N I M s = some a) : a = sm2 (fun k => scf s (M 0 k)) 7 := by
  unfold fX3_howManyShared at h
  obtain ⟨w, q, e⟩ := lp_acc (F := fun fu v y => fX3_howManyShared_L4 N I M s fu v y) (d := fun k => scf s (M 0 k)) (n := 7) (o := 0) (Q := fun w a => a = w) (fun v y a z => by cases (show none = some a from z)) (fun fu v a h => by
      have h : fX3_howManyShared_L4 N I M s (fu + 1) v (nI 7) = some a := h
      rw [fX3_howManyShared_L4.eq_2] at h
      exact (Option.some.inj (wb_t (by decide) h)).symm) (fun fu v k a _ hk h => by
      have h : fX3_howManyShared_L4 N I M s (fu + 1) v (nI k) = some a := h
      rw [fX3_howManyShared_L4.eq_2] at h
      have h := wb_f (nI_ge (a := k) (b := 7) hk (by omega)) h
      obtain ⟨r, er, h⟩ := wb_b h
      have er := shd hk er
      show fX3_howManyShared_L4 N I M s fu (v + scf s (M 0 k)) (nI (k + 1)) = some a
      rw [← er]
      rcases ifr h with ⟨c, h⟩ | ⟨c, h⟩
      · obtain ⟨u, f, h⟩ := wb_v h
        rw [f, nI_1] at h
        rw [c, z32]
        exact h
      · obtain ⟨u, f, h⟩ := wb_v h
        obtain ⟨u2, f2, h⟩ := wb_v h
        rw [f, f2, nI_1] at h
        rcases sc01 s (M 0 k) with z | z
        · exact absurd (er.trans z) c
        · rw [er, z]
          exact h) N 0 0 a (by omega) (by omega) h
  rw [q]
  have e : w + 0 = 0 + sm2 (fun k => scf s (M 0 k)) 7 := e
  rw [z32, Int32.zero_add] at e
  exact e
theorem er_a {N : Nat} {I : Nat → Int32} {M : Nat → Nat → Int32} {s a : Int32} (h : fX3_howManyAlone N I M s = some a) : a = sm2 (fun k => acf s (M 0 k)) 7 := by
  unfold fX3_howManyAlone at h
  obtain ⟨w, q, e⟩ := lp_acc (F := fun fu v y => fX3_howManyAlone_L4 N I M s fu v y) (d := fun k => acf s (M 0 k)) (n := 7) (o := 0) (Q := fun w a => a = w) (fun v y a z => by cases (show none = some a from z)) (fun fu v a h => by
      have h : fX3_howManyAlone_L4 N I M s (fu + 1) v (nI 7) = some a := h
      rw [fX3_howManyAlone_L4.eq_2] at h
      exact (Option.some.inj (wb_t (by decide) h)).symm) (fun fu v k a _ hk h => by
      have h : fX3_howManyAlone_L4 N I M s (fu + 1) v (nI k) = some a := h
      rw [fX3_howManyAlone_L4.eq_2, nI_clamp (by omega)] at h
      have h := wb_f (nI_ge (a := k) (b := 7) hk (by omega)) h
      obtain ⟨-, h⟩ := wb_n h
      show fX3_howManyAlone_L4 N I M s fu (v + acf s (M 0 k)) (nI (k + 1)) = some a
      unfold acf
      rcases ifr h with ⟨c, h⟩ | ⟨c, h⟩
      · obtain ⟨u, f, h⟩ := wb_v h
        obtain ⟨u2, f2, h⟩ := wb_v h
        rw [f, f2, nI_1] at h
        rw [if_pos c]
        exact h
      · obtain ⟨u, f, h⟩ := wb_v h
        rw [f, nI_1] at h
        rw [if_neg c, z32]
        exact h) N 0 0 a (by omega) (by omega) h
  rw [q]
  have e : w + 0 = 0 + sm2 (fun k => acf s (M 0 k)) 7 := e
  rw [z32, Int32.zero_add] at e
  exact e
theorem er_w {N : Nat} {I : Nat → Int32} {M : Nat → Nat → Int32} {s a : Int32} (h : fX3_weightOf N I M s = some a) : a = sm2 (fun k => wcf s (M 0 k)) 7 := by
  unfold fX3_weightOf at h
  obtain ⟨w, q, e⟩ := lp_acc (F := fun fu v y => fX3_weightOf_L4 N I M s fu v y) (d := fun k => wcf s (M 0 k)) (n := 7) (o := 0) (Q := fun w a => a = w) (fun v y a z => by cases (show none = some a from z)) (fun fu v a h => by
      have h : fX3_weightOf_L4 N I M s (fu + 1) v (nI 7) = some a := h
      rw [fX3_weightOf_L4.eq_2] at h
      exact (Option.some.inj (wb_t (by decide) h)).symm) (fun fu v k a _ hk h => by
      have h : fX3_weightOf_L4 N I M s (fu + 1) v (nI k) = some a := h
      rw [fX3_weightOf_L4.eq_2, nI_clamp (by omega)] at h
      have h := wb_f (nI_ge (a := k) (b := 7) hk (by omega)) h
      obtain ⟨-, h⟩ := wb_n h
      obtain ⟨b, eb, h⟩ := wb_b h
      have eb : (fJ6_bitCount_0f7a4 0 (M 0 k)).getD 0 = b := by
        have eb : fJ6_bitCount_0f7a4 0 (M 0 k) = some b := eb
        rw [eb]
        rfl
      obtain ⟨r, er, h⟩ := wb_b h
      have er := shd hk er
      show fX3_weightOf_L4 N I M s fu (v + wcf s (M 0 k)) (nI (k + 1)) = some a
      unfold wcf
      rw [← er, eb]
      rcases ifr h with ⟨c, h⟩ | ⟨c, h⟩
      · obtain ⟨u, f, h⟩ := wb_v h
        rw [f, nI_1] at h
        rw [if_pos c, z32]
        exact h
      · rw [if_neg c]
        rcases ifr h with ⟨c2, h⟩ | ⟨c2, h⟩
        · obtain ⟨u, f, h⟩ := wb_v h
          rw [f, nI_1] at h
          rw [if_pos c2, z32]
          exact h
        · obtain ⟨-, h⟩ := wb_n h
          obtain ⟨u, f, h⟩ := wb_v h
          obtain ⟨u2, f2, h⟩ := wb_v h
          rw [f, f2, nI_1] at h
          rw [if_neg c2]
          exact h) N 0 0 a (by omega) (by omega) h
  rw [q]
  have e : w + 0 = 0 + sm2 (fun k => wcf s (M 0 k)) 7 := e
  rw [z32, Int32.zero_add] at e
  exact e
/-! the reference's rows -/
noncomputable def up3 (K : Nat → Nat → Int32) (s : Nat) (p : Bool) (b : Int32) : Nat → Nat → Int32 := if p then wb_um (wb_um (wb_um K 20 s (K 20 s + 1)) 21 s (K 21 s + (if b = 1 then 1 else 0))) 22 s (K 22 s + 6 / b) else K
/-- one SET in the reference's inner loop -/
theorem l187 {N : Nat} {x1 x2 x3 x4 r4 v7 b y90 : Int32} {g51 : (Nat → Int32) → Int64 → (Nat → Nat → Int32) → Int32 → Option (Int32 × (Nat → Int32) × Int64 × (Nat → Nat → Int32))} {g90 : (Nat → Int32) → Int64 → (Nat → Nat → Int32) → Int32 → Int32 → Option (Int32 × (Nat → Int32) × Int64 × (Nat → Nat → Int32))} {g145 : (Nat → Int32) → Int64 → (Nat → Nat → Int32) → Int32 → Int32 → Option (Int32 × (Nat → Int32) × Int64 × (Nat → Nat → Int32))} {fu s : Nat} (hs : s < 4) {J : Nat → Int32} {L : Int64} {K : Nat → Nat → Int32} {S : Int32 × (Nat → Int32) × Int64 × (Nat → Nat → Int32)} (h : fX12_errors_L187 N x1 x2 x3 x4 r4 v7 b y90 g51 g90 g145 (fu + 1) J L K (nI s) = some S) : ∃ q, fX12_placeOn N J L K (nI s) y90 x3 = some q ∧ fX12_errors_L187 N x1 x2 x3 x4 r4 v7 b y90 g51 g90 g145 fu J L (up3 K s (decide (q / 60 = r4)) b) (nI (s + 1)) = some S := by
  rw [fX12_errors_L187.eq_2, nI_clamp (by omega)] at h
  have h := wb_f (nI_ge (a := s) (b := 4) hs (by omega)) h
  obtain ⟨q, e, h⟩ := wb_b h
  refine ⟨q, e, ?_⟩
  rcases ifr h with ⟨c, h⟩ | ⟨c, h⟩
  · rw [decide_eq_true c]
    unfold up3
    rw [if_pos rfl]
    obtain ⟨-, h⟩ := wb_n h
    obtain ⟨-, h⟩ := wb_n h
    obtain ⟨m13, e13, h⟩ := wb_v h
    obtain ⟨-, h⟩ := wb_n h
    have fin : ∀ z : Int32, fX12_errors_J243 N x1 x2 x3 x4 r4 v7 b y90 g51 g90 g145 (fun q0 q1 q2 q3 => fX12_errors_L187 N x1 x2 x3 x4 r4 v7 b y90 g51 g90 g145 fu q0 q1 q2 q3) J L m13 (nI s) z (m13 21 s) (nI s) = some S → fX12_errors_L187 N x1 x2 x3 x4 r4 v7 b y90 g51 g90 g145 fu J L (wb_um (wb_um (wb_um K 20 s (K 20 s + 1)) 21 s (K 21 s + z)) 22 s (K 22 s + 6 / b)) (nI (s + 1)) = some S := by
      intro z h
      unfold fX12_errors_J243 at h
      rw [nI_clamp (by omega)] at h
      obtain ⟨-, h⟩ := wb_n h
      obtain ⟨m8, e8, h⟩ := wb_v h
      obtain ⟨-, h⟩ := wb_n h
      obtain ⟨-, h⟩ := wb_n h
      obtain ⟨-, h⟩ := wb_n h
      obtain ⟨m9, e9, h⟩ := wb_v h
      obtain ⟨v10, e10, h⟩ := wb_v h
      rw [e9, e10, e8, e13, nI_1] at h
      exact h
    rcases ifr h with ⟨c2, h⟩ | ⟨c2, h⟩
    · rw [if_pos c2]; exact fin 1 h
    · rw [if_neg c2]; exact fin 0 h
  · rw [decide_eq_false c]
    unfold up3
    rw [if_neg (by decide)]
    obtain ⟨w, ew, h⟩ := wb_v h
    rw [ew, nI_1] at h
    exact h
theorem l145 {N : Nat} {x1 x2 x3 x4 r4 v7 y90 : Int32} {g51 : (Nat → Int32) → Int64 → (Nat → Nat → Int32) → Int32 → Option (Int32 × (Nat → Int32) × Int64 × (Nat → Nat → Int32))} {g90 : (Nat → Int32) → Int64 → (Nat → Nat → Int32) → Int32 → Int32 → Option (Int32 × (Nat → Int32) × Int64 × (Nat → Nat → Int32))} {fu s : Nat} (hs : s < 4) {J : Nat → Int32} {L : Int64} {K : Nat → Nat → Int32} {b : Int32} {S : Int32 × (Nat → Int32) × Int64 × (Nat → Nat → Int32)} (h : fX12_errors_L145 N x1 x2 x3 x4 r4 v7 y90 g51 g90 (fu + 1) J L K b (nI s) = some S) : ∃ q, fX12_placeOn N J L K (nI s) y90 x3 = some q ∧ fX12_errors_L145 N x1 x2 x3 x4 r4 v7 y90 g51 g90 fu J L K (b + (if q / 60 = r4 then 1 else 0)) (nI (s + 1)) = some S := by
  rw [fX12_errors_L145.eq_2] at h
  have h := wb_f (nI_ge (a := s) (b := 4) hs (by omega)) h
  obtain ⟨q, e, h⟩ := wb_b h
  refine ⟨q, e, ?_⟩
  rcases ifr h with ⟨c, h⟩ | ⟨c, h⟩
  · obtain ⟨u, f, h⟩ := wb_v h
    obtain ⟨w, ew, h⟩ := wb_v h
    rw [f, ew, nI_1] at h
    rw [if_pos c]
    exact h
  · obtain ⟨u, f, h⟩ := wb_v h
    obtain ⟨w, ew, h⟩ := wb_v h
    rw [f, ew, nI_1] at h
    rw [if_neg c]
    exact h
theorem up3_o {K : Nat → Nat → Int32} {s : Nat} {p : Bool} {b : Int32} {j : Nat} (hj : j < 20) : up3 K s p b j = K j := by
  unfold up3
  cases p with
  | false => rfl
  | true =>
    rw [if_pos rfl]
    unfold wb_um
    rw [if_neg (by omega), if_neg (by omega), if_neg (by omega)]
theorem up3_v {K : Nat → Nat → Int32} {s : Nat} {p : Bool} {b : Int32} (t : Nat) : up3 K s p b 20 t = (if t = s then K 20 t + (if p then 1 else 0) else K 20 t) ∧ up3 K s p b 21 t = (if t = s then K 21 t + (if p then (if b = 1 then 1 else 0) else 0) else K 21 t) ∧ up3 K s p b 22 t = (if t = s then K 22 t + (if p then 6 / b else 0) else K 22 t) := by
  unfold up3
  cases p with
  | false =>
    simp only [Bool.false_eq_true, if_false, z32, ite_self]
    exact ⟨trivial, trivial, trivial⟩
  | true =>
    simp only [if_true]
    refine ⟨?_, ?_, ?_⟩
    · show upd (K 20) s (K 20 s + 1) t = _
      unfold upd
      by_cases e : t = s
      · rw [if_pos e, if_pos e, e]
      · rw [if_neg e, if_neg e]
    · show upd (K 21) s (K 21 s + (if b = 1 then 1 else 0)) t = _
      unfold upd
      by_cases e : t = s
      · rw [if_pos e, if_pos e, e]
      · rw [if_neg e, if_neg e]
    · show upd (K 22) s (K 22 s + 6 / b) t = _
      unfold upd
      by_cases e : t = s
      · rw [if_pos e, if_pos e, e]
      · rw [if_neg e, if_neg e]
/-- a WANDERER's part in the rows: eight cases -/
theorem cod (q r s : Bool) : ecf (bb false q r s) = 1 ∧ (scf 1 (bb false q r s) = (if q then 1 else 0) ∧ scf 2 (bb false q r s) = (if r then 1 else 0) ∧ scf 3 (bb false q r s) = (if s then 1 else 0)) ∧ (∀ b : Int32, b = (0 : Int32) + (if q then 1 else 0) + (if r then 1 else 0) + (if s then 1 else 0) → (acf 1 (bb false q r s) = (if q then (if b = 1 then 1 else 0) else 0) ∧ acf 2 (bb false q r s) = (if r then (if b = 1 then 1 else 0) else 0) ∧ acf 3 (bb false q r s) = (if s then (if b = 1 then 1 else 0) else 0)) ∧ (wcf 1 (bb false q r s) = (if q then 6 / b else 0) ∧ wcf 2 (bb false q r s) = (if r then 6 / b else 0) ∧ wcf 3 (bb false q r s) = (if s then 6 / b else 0))) := by
  refine ⟨?_, ?_, fun b hb => ?_⟩
  · revert q r s; decide +kernel
  · revert q r s; decide +kernel
  · subst hb
    revert q r s; decide +kernel
theorem cod0 : ecf (-1) = 0 ∧ (scf 1 (-1) = 0 ∧ scf 2 (-1) = 0 ∧ scf 3 (-1) = 0) ∧ (acf 1 (-1) = 0 ∧ acf 2 (-1) = 0 ∧ acf 3 (-1) = 0) ∧ (wcf 1 (-1) = 0 ∧ wcf 2 (-1) = 0 ∧ wcf 3 (-1) = 0) := by decide +kernel
/-- the reference's rows hold the sums of the class's codes -/
noncomputable def EV (m : Nat → Int32) (K : Nat → Nat → Int32) (v : Int32) (k : Nat) : Prop := v = sm2 (fun j => ecf (m j)) k ∧ (K 20 1 = sm2 (fun j => scf 1 (m j)) k ∧ K 20 2 = sm2 (fun j => scf 2 (m j)) k ∧ K 20 3 = sm2 (fun j => scf 3 (m j)) k) ∧ (K 21 1 = sm2 (fun j => acf 1 (m j)) k ∧ K 21 2 = sm2 (fun j => acf 2 (m j)) k ∧ K 21 3 = sm2 (fun j => acf 3 (m j)) k) ∧ (K 22 1 = sm2 (fun j => wcf 1 (m j)) k ∧ K 22 2 = sm2 (fun j => wcf 2 (m j)) k ∧ K 22 3 = sm2 (fun j => wcf 3 (m j)) k)
theorem EV.zero {m : Nat → Int32} {K : Nat → Nat → Int32} {v : Int32} {k : Nat} (h : EV m K v k) (hc : m k = -1) : EV m K v (k + 1) := by
  obtain ⟨a, ⟨b1, b2, b3⟩, ⟨c1, c2, c3⟩, d1, d2, d3⟩ := h
  obtain ⟨q, ⟨r1, r2, r3⟩, ⟨s1, s2, s3⟩, t1, t2, t3⟩ := cod0
  have e : ∀ f : Int32 → Int32, f (-1) = 0 → sm2 (fun j => f (m j)) (k + 1) = sm2 (fun j => f (m j)) k := by
    intro f hf
    show sm2 (fun j => f (m j)) k + f (m k) = _
    rw [hc, hf, z32]
  exact ⟨by rw [e ecf q]; exact a, ⟨by rw [e (scf 1) r1]; exact b1, by rw [e (scf 2) r2]; exact b2, by rw [e (scf 3) r3]; exact b3⟩, ⟨by rw [e (acf 1) s1]; exact c1, by rw [e (acf 2) s2]; exact c2, by rw [e (acf 3) s3]; exact c3⟩, by rw [e (wcf 1) t1]; exact d1, by rw [e (wcf 2) t2]; exact d2, by rw [e (wcf 3) t3]; exact d3⟩
theorem EV.add {m : Nat → Int32} {K : Nat → Nat → Int32} {v : Int32} {k : Nat} {p q r : Bool} {b : Int32} (h : EV m K v k) (hc : m k = bb false p q r) (hb : b = (0 : Int32) + (if p then 1 else 0) + (if q then 1 else 0) + (if r then 1 else 0)) : EV m (up3 (up3 (up3 K 1 p b) 2 q b) 3 r b) (v + 1) (k + 1) := by
  obtain ⟨a, ⟨b1, b2, b3⟩, ⟨c1, c2, c3⟩, d1, d2, d3⟩ := h
  obtain ⟨x, ⟨r1, r2, r3⟩, y⟩ := cod p q r
  obtain ⟨⟨s1, s2, s3⟩, t1, t2, t3⟩ := y b hb
  have e : ∀ (f : Int32 → Int32) (z w : Int32), f (bb false p q r) = z → w = sm2 (fun j => f (m j)) k → w + z = sm2 (fun j => f (m j)) (k + 1) := by
    intro f z w hf hw
    show _ = sm2 (fun j => f (m j)) k + f (m k)
    rw [hc, hf, hw]
  have u : ∀ (j t : Nat), (j = 20 ∨ j = 21 ∨ j = 22) → (t = 1 ∨ t = 2 ∨ t = 3) → up3 (up3 (up3 K 1 p b) 2 q b) 3 r b j t = K j t + (if j = 20 then (if (if t = 1 then p else if t = 2 then q else r) then 1 else 0) else if j = 21 then (if (if t = 1 then p else if t = 2 then q else r) then (if b = 1 then 1 else 0) else 0) else (if (if t = 1 then p else if t = 2 then q else r) then 6 / b else 0)) := by
    intro j t hj ht
    have v1 := up3_v (K := K) (s := 1) (p := p) (b := b) t
    have v2 := up3_v (K := up3 K 1 p b) (s := 2) (p := q) (b := b) t
    have v3 := up3_v (K := up3 (up3 K 1 p b) 2 q b) (s := 3) (p := r) (b := b) t
    rcases hj with rfl | rfl | rfl
    · rw [v3.1, v2.1, v1.1]
      rcases ht with rfl | rfl | rfl <;> simp
    · rw [v3.2.1, v2.2.1, v1.2.1]
      rcases ht with rfl | rfl | rfl <;> simp
    · rw [v3.2.2, v2.2.2, v1.2.2]
      rcases ht with rfl | rfl | rfl <;> simp
  refine ⟨e ecf 1 v x a, ⟨?_, ?_, ?_⟩, ⟨?_, ?_, ?_⟩, ?_, ?_, ?_⟩
  · rw [u 20 1 (by omega) (by omega)]; exact e (scf 1) _ _ r1 b1
  · rw [u 20 2 (by omega) (by omega)]; exact e (scf 2) _ _ r2 b2
  · rw [u 20 3 (by omega) (by omega)]; exact e (scf 3) _ _ r3 b3
  · rw [u 21 1 (by omega) (by omega)]; exact e (acf 1) _ _ s1 c1
  · rw [u 21 2 (by omega) (by omega)]; exact e (acf 2) _ _ s2 c2
  · rw [u 21 3 (by omega) (by omega)]; exact e (acf 3) _ _ s3 c3
  · rw [u 22 1 (by omega) (by omega)]; exact e (wcf 1) _ _ t1 d1
  · rw [u 22 2 (by omega) (by omega)]; exact e (wcf 2) _ _ t2 d2
  · rw [u 22 3 (by omega) (by omega)]; exact e (wcf 3) _ _ t3 d3
/-! ERRORS of both: the loops of the reference -/
theorem z145 {N : Nat} {x1 x2 x3 x4 r4 v7 y90 : Int32} {g51 : (Nat → Int32) → Int64 → (Nat → Nat → Int32) → Int32 → Option (Int32 × (Nat → Int32) × Int64 × (Nat → Nat → Int32))} {g90 : (Nat → Int32) → Int64 → (Nat → Nat → Int32) → Int32 → Int32 → Option (Int32 × (Nat → Int32) × Int64 × (Nat → Nat → Int32))} {fu : Nat} {J : Nat → Int32} {L : Int64} {K : Nat → Nat → Int32} {b s : Int32} {S : Int32 × (Nat → Int32) × Int64 × (Nat → Nat → Int32)} (h : fX12_errors_L145 N x1 x2 x3 x4 r4 v7 y90 g51 g90 fu J L K b s = some S) : ∃ f, fu = f + 1 := by
  cases fu with
  | zero => cases (show none = some S from h)
  | succ f => exact ⟨f, rfl⟩
theorem z187 {N : Nat} {x1 x2 x3 x4 r4 v7 b y90 : Int32} {g51 : (Nat → Int32) → Int64 → (Nat → Nat → Int32) → Int32 → Option (Int32 × (Nat → Int32) × Int64 × (Nat → Nat → Int32))} {g90 : (Nat → Int32) → Int64 → (Nat → Nat → Int32) → Int32 → Int32 → Option (Int32 × (Nat → Int32) × Int64 × (Nat → Nat → Int32))} {g145 : (Nat → Int32) → Int64 → (Nat → Nat → Int32) → Int32 → Int32 → Option (Int32 × (Nat → Int32) × Int64 × (Nat → Nat → Int32))} {fu : Nat} {J : Nat → Int32} {L : Int64} {K : Nat → Nat → Int32} {s : Int32} {S : Int32 × (Nat → Int32) × Int64 × (Nat → Nat → Int32)} (h : fX12_errors_L187 N x1 x2 x3 x4 r4 v7 b y90 g51 g90 g145 fu J L K s = some S) : ∃ f, fu = f + 1 := by
  cases fu with
  | zero => cases (show none = some S from h)
  | succ f => exact ⟨f, rfl⟩
/-- one WANDERER that is an ERROR -/
theorem er_in {N : Nat} {x1 x2 x3 x4 r4 v7 y90 : Int32} {g51 : (Nat → Int32) → Int64 → (Nat → Nat → Int32) → Int32 → Option (Int32 × (Nat → Int32) × Int64 × (Nat → Nat → Int32))} {g90 : (Nat → Int32) → Int64 → (Nat → Nat → Int32) → Int32 → Int32 → Option (Int32 × (Nat → Int32) × Int64 × (Nat → Nat → Int32))} {fu : Nat} {J : Nat → Int32} {L : Int64} {K : Nat → Nat → Int32} {S : Int32 × (Nat → Int32) × Int64 × (Nat → Nat → Int32)} {p1 p2 p3 : Bool} (hp : ∀ K' : Nat → Nat → Int32, (∀ j, j < 20 → K' j = K j) → (∀ q, fX12_placeOn N J L K' 1 y90 x3 = some q → decide (q / 60 = r4) = p1) ∧ (∀ q, fX12_placeOn N J L K' 2 y90 x3 = some q → decide (q / 60 = r4) = p2) ∧ (∀ q, fX12_placeOn N J L K' 3 y90 x3 = some q → decide (q / 60 = r4) = p3)) (h : fX12_errors_L145 N x1 x2 x3 x4 r4 v7 y90 g51 g90 fu J L K 0 1 = some S) : ∃ b : Int32, b = (0 : Int32) + (if p1 then 1 else 0) + (if p2 then 1 else 0) + (if p3 then 1 else 0) ∧ g90 J L (up3 (up3 (up3 K 1 p1 b) 2 p2 b) 3 p3 b) v7 (y90 + 1) = some S := by
  have cv : ∀ (q : Int32) (p : Bool), decide (q / 60 = r4) = p → (if q / 60 = r4 then (1 : Int32) else 0) = if p then 1 else 0 := by
    intro q p e
    rw [← e]
    by_cases c : q / 60 = r4
    · rw [if_pos c, decide_eq_true c, if_pos rfl]
    · rw [if_neg c, decide_eq_false c, if_neg (by decide)]
  obtain ⟨k1, k2, k3⟩ := hp K (fun _ _ => rfl)
  obtain ⟨f, e⟩ := z145 h
  rw [e] at h
  obtain ⟨q1, e1, h⟩ := l145 (s := 1) (by omega) h
  rw [cv q1 p1 (k1 q1 e1)] at h
  obtain ⟨f, e⟩ := z145 h
  rw [e] at h
  obtain ⟨q2, e2, h⟩ := l145 (s := 2) (by omega) h
  rw [cv q2 p2 (k2 q2 e2)] at h
  obtain ⟨f, e⟩ := z145 h
  rw [e] at h
  obtain ⟨q3, e3, h⟩ := l145 (s := 3) (by omega) h
  rw [cv q3 p3 (k3 q3 e3)] at h
  obtain ⟨f, e⟩ := z145 h
  rw [e, fX12_errors_L145.eq_2] at h
  have h := wb_t (by decide) h
  refine ⟨_, rfl, ?_⟩
  generalize (0 : Int32) + (if p1 then (1 : Int32) else 0) + (if p2 then (1 : Int32) else 0) + (if p3 then (1 : Int32) else 0) = b at h ⊢
  obtain ⟨f, e⟩ := z187 h
  rw [show fX12_errors_L187 N x1 x2 x3 x4 r4 v7 b y90 g51 g90 (fun q0 q1 q2 q3 q4 => fX12_errors_L145 N x1 x2 x3 x4 r4 v7 y90 g51 g90 _ q0 q1 q2 q3 q4) N J L K 1 = fX12_errors_L187 N x1 x2 x3 x4 r4 v7 b y90 g51 g90 (fun q0 q1 q2 q3 q4 => fX12_errors_L145 N x1 x2 x3 x4 r4 v7 y90 g51 g90 _ q0 q1 q2 q3 q4) (f + 1) J L K 1 from congrArg (fun z => fX12_errors_L187 N x1 x2 x3 x4 r4 v7 b y90 g51 g90 (fun q0 q1 q2 q3 q4 => fX12_errors_L145 N x1 x2 x3 x4 r4 v7 y90 g51 g90 _ q0 q1 q2 q3 q4) z J L K 1) e] at h
  obtain ⟨q1, e1, h⟩ := l187 (s := 1) (by omega) h
  rw [k1 q1 e1] at h
  obtain ⟨f, e⟩ := z187 h
  rw [e] at h
  obtain ⟨q2, e2, h⟩ := l187 (s := 2) (by omega) h
  rw [(hp _ (fun j hj => up3_o hj)).2.1 q2 e2] at h
  obtain ⟨f, e⟩ := z187 h
  rw [e] at h
  obtain ⟨q3, e3, h⟩ := l187 (s := 3) (by omega) h
  rw [(hp _ (fun j hj => (up3_o hj).trans (up3_o hj))).2.2 q3 e3] at h
  obtain ⟨f, e⟩ := z187 h
  rw [e, fX12_errors_L187.eq_2] at h
  have h := wb_t (by decide) h
  obtain ⟨w, ew, h⟩ := wb_v h
  rw [ew] at h
  exact h
theorem er90 {N N2 : Nat} {Ic J : Nat → Int32} {Mc K : Nat → Nat → Int32} {L : Int64} {I2 I1 : Nat → Int32} {m : Nat → Int32} {x1 x2 x3 x4 n : Int32} {S : Int32 × (Nat → Int32) × Int64 × (Nat → Nat → Int32)} {Goal : Prop} {g51 : (Nat → Int32) → Int64 → (Nat → Nat → Int32) → Int32 → Option (Int32 × (Nat → Int32) × Int64 × (Nat → Nat → Int32))} (hn : n = (20 : Int32) * x1 + x2) (ht : HT Ic Mc J K) (er : EnR Mc K) (hd : 0 ≤ x3.toInt ∧ x3.toInt ≤ 1000001) (hc : ∀ k, k < 7 → Cd N I2 (wb_sh Mc 13) I1 (wb_sh Mc 1) n x3 k (m k)) (fin : ∀ v' K' g, EV m K' v' 7 → (if x4 = 0 then (some (v', J, L, K')) else if x4 ≤ (1 : Int32) then (fX12_errors_L340 N2 x1 x2 x3 x4 g51 g N2 J L K' (1 : Int32) (2 : Int32)) else if (5 : Int32) ≤ x4 then (if (8 : Int32) ≤ x4 then (if ((x4 - (7 : Int32)) < 0 ∨ 4 ≤ ((x4 - (7 : Int32))).toNatClampNeg) then none else some ((K' 22 ((x4 - (7 : Int32))).toNatClampNeg), J, L, K')) else if ((x4 - (4 : Int32)) < 0 ∨ 4 ≤ ((x4 - (4 : Int32))).toNatClampNeg) then none else some ((K' 21 ((x4 - (4 : Int32))).toNatClampNeg), J, L, K')) else if ((x4 - (1 : Int32)) < 0 ∨ 4 ≤ ((x4 - (1 : Int32))).toNatClampNeg) then none else some ((K' 20 ((x4 - (1 : Int32))).toNatClampNeg), J, L, K')) = some S → Goal) : ∀ (fv y : Nat) (v : Int32) (K' : Nat → Nat → Int32), fX12_errors_L90 N2 x1 x2 x3 x4 g51 fv J L K' v (nI y) = some S → y ≤ 7 → (∀ j, j < 20 → K' j = K j) → EV m K' v y → Goal := by
  have n7 : (7 : Int32).toInt = 7 := by decide
  intro fv
  induction fv with
  | zero => intro y v K' h; cases (show none = some S from h)
  | succ fv ih =>
    intro y v K' h hy hK ev
    rw [fX12_errors_L90.eq_2] at h
    have ty : (nI y).toInt = (y : Int) := nI_toInt (by omega)
    rcases ifr h with ⟨c, h⟩ | ⟨c, h⟩
    · have c := (le32 n7 ty).mp c
      have e : y = 7 := by omega
      subst e
      exact fin v K' _ ev h
    · have c : ¬ _ := fun z => c ((le32 n7 ty).mpr z)
      have hy7 : y < 7 := by omega
      have ht' : ∀ K'' : Nat → Nat → Int32, (∀ j, j < 20 → K'' j = K j) → HT Ic Mc J K'' := fun K'' hk => ht.cg rfl rfl (fun _ _ _ => rfl) rfl rfl (fun j hj => hk j (by omega))
      obtain ⟨r, er1, hcc⟩ := hc y hy7
      obtain ⟨r4, e4, h⟩ := wb_b h
      rw [← hn] at e4
      have q4 := at_eq (er.cg rfl (hK 7 (by omega))) er1 e4
      rw [← q4] at h
      rcases hcc with ⟨k1, k2⟩ | ⟨k1, d0, d1, d2, d3, g0, g1, g2, g3, hcc⟩
      · have h := wb_t k1 h
        obtain ⟨w, ew, h⟩ := wb_v h
        rw [ew, nI_1] at h
        exact ih (y + 1) v K' h (by omega) hK (ev.zero k2)
      · have h := wb_f k1 h
        obtain ⟨r6, e6, h⟩ := wb_b h
        have p0 := (dgo (ht' K' hK) (by decide) ⟨by omega, by omega⟩ hd g0 e6).1
        rw [← p0] at h
        rcases hcc with ⟨k3, k2⟩ | ⟨k3, k2⟩
        · have h := wb_t k3 h
          obtain ⟨w, ew, h⟩ := wb_v h
          rw [ew, nI_1] at h
          exact ih (y + 1) v K' h (by omega) hK (ev.zero k2)
        · have h := wb_f k3 h
          obtain ⟨v7, e7, h⟩ := wb_v h
          obtain ⟨b, eb, h⟩ := er_in (p1 := decide (d1 = r)) (p2 := decide (d2 = r)) (p3 := decide (d3 = r)) (fun K'' hk => by
            have hk2 : ∀ j, j < 20 → K'' j = K j := fun j hj => (hk j hj).trans (hK j hj)
            refine ⟨fun q e => ?_, fun q e => ?_, fun q e => ?_⟩
            · rw [(dgo (ht' K'' hk2) (by decide) ⟨by omega, by omega⟩ hd g1 e).1]
            · rw [(dgo (ht' K'' hk2) (by decide) ⟨by omega, by omega⟩ hd g2 e).1]
            · rw [(dgo (ht' K'' hk2) (by decide) ⟨by omega, by omega⟩ hd g3 e).1]) h
          rw [e7, nI_1] at h
          refine ih (y + 1) (v + 1) _ h (by omega) (fun j hj => ?_) (ev.add k2 eb)
          rw [up3_o hj, up3_o hj, up3_o hj]
          exact hK j hj
/-- the rows begin at 0 -/
theorem er51 {N : Nat} {x1 x2 x3 x4 : Int32} {J : Nat → Int32} {L : Int64} {K : Nat → Nat → Int32} {S : Int32 × (Nat → Int32) × Int64 × (Nat → Nat → Int32)} (m : Nat → Int32) : ∀ (fv y : Nat) (K' : Nat → Nat → Int32), fX12_errors_L51 N x1 x2 x3 x4 fv J L K' (nI y) = some S → 1 ≤ y → y ≤ 4 → (∀ j, j < 20 → K' j = K j) → (∀ t, 1 ≤ t → t < y → K' 20 t = 0 ∧ K' 21 t = 0 ∧ K' 22 t = 0) → ∃ g51 K'', (∀ j, j < 20 → K'' j = K j) ∧ EV m K'' 0 0 ∧ fX12_errors_L90 N x1 x2 x3 x4 g51 N J L K'' 0 0 = some S := by
  have n4 : (4 : Int32).toInt = 4 := by decide
  intro fv
  induction fv with
  | zero => intro y K' h; cases (show none = some S from h)
  | succ fv ih =>
    intro y K' h y1 hy hK hz
    rw [fX12_errors_L51.eq_2] at h
    have ty : (nI y).toInt = (y : Int) := nI_toInt (by omega)
    rcases ifr h with ⟨c, h⟩ | ⟨c, h⟩
    · have c := (le32 n4 ty).mp c
      obtain ⟨a1, a2, a3⟩ := hz 1 (by omega) (by omega)
      obtain ⟨b1, b2, b3⟩ := hz 2 (by omega) (by omega)
      obtain ⟨c1, c2, c3⟩ := hz 3 (by omega) (by omega)
      exact ⟨_, K', hK, ⟨rfl, ⟨a1, b1, c1⟩, ⟨a2, b2, c2⟩, a3, b3, c3⟩, h⟩
    · have c : ¬ _ := fun z => c ((le32 n4 ty).mpr z)
      rw [nI_clamp (by omega)] at h
      obtain ⟨-, h⟩ := wb_n h
      obtain ⟨m1, e1, h⟩ := wb_v h
      obtain ⟨-, h⟩ := wb_n h
      obtain ⟨m2, e2, h⟩ := wb_v h
      obtain ⟨-, h⟩ := wb_n h
      obtain ⟨m3, e3, h⟩ := wb_v h
      obtain ⟨w, ew, h⟩ := wb_v h
      rw [ew, nI_1] at h
      refine ih (y + 1) m3 h (by omega) (by omega) (fun j hj => ?_) (fun t t1 t2 => ?_)
      · rw [e3, e2, e1]
        unfold wb_um
        rw [if_neg (by omega), if_neg (by omega), if_neg (by omega)]
        exact hK j hj
      · rw [e3, e2, e1]
        have hv : ∀ f : Nat → Int32, (t < y → f t = 0) → upd f y 0 t = 0 := by
          intro f hf
          unfold upd
          by_cases e : t = y
          · rw [if_pos e]
          · rw [if_neg e]; exact hf (by omega)
        exact ⟨hv (K' 20) (fun z => (hz t t1 z).1), hv (K' 21) (fun z => (hz t t1 z).2.1), hv (K' 22) (fun z => (hz t t1 z).2.2)⟩
/-! FOLLOWED alike -/
theorem sm_rg {d : Nat → Int32} {b : Int} (hb : 0 ≤ b ∧ b ≤ 100) (h : ∀ k, k < 7 → 0 ≤ (d k).toInt ∧ (d k).toInt ≤ b) : ∀ n, n ≤ 7 → 0 ≤ (sm2 d n).toInt ∧ (sm2 d n).toInt ≤ b * n := by
  intro n
  induction n with
  | zero =>
    intro _
    refine ⟨show 0 ≤ (0 : Int32).toInt from by decide, ?_⟩
    show (0 : Int32).toInt ≤ b * ((0 : Nat) : Int)
    rw [ni0, Int.natCast_zero, Int.mul_zero]
    exact Int.le_refl 0
  | succ n ih =>
    intro hn
    have a := ih (by omega)
    have c := h n (by omega)
    have e : b * ((n + 1 : Nat) : Int) = b * (n : Int) + b := by rw [Int.natCast_add, Int.mul_add]; omega
    have f : b * (n : Int) ≤ 100 * 7 := Int.mul_le_mul hb.2 (by omega) (by omega) (by omega)
    have s := ia_add (sm2 d n) (d n) (by omega) (by omega)
    show 0 ≤ (sm2 d n + d n).toInt ∧ (sm2 d n + d n).toInt ≤ _
    omega
theorem wc_rg {N : Nat} {I2 : Nat → Int32} {m2 : Nat → Nat → Int32} {I1 : Nat → Int32} {m1 : Nat → Nat → Int32} {n d : Int32} {k : Nat} {c : Int32} (h : Cd N I2 m2 I1 m1 n d k c) : (0 ≤ (wcf 1 c).toInt ∧ (wcf 1 c).toInt ≤ 6) ∧ (0 ≤ (wcf 2 c).toInt ∧ (wcf 2 c).toInt ≤ 6) ∧ (0 ≤ (wcf 3 c).toInt ∧ (wcf 3 c).toInt ≤ 6) := by
  have b : ∀ q r s : Bool, (0 ≤ (wcf 1 (bb false q r s)).toInt ∧ (wcf 1 (bb false q r s)).toInt ≤ 6) ∧ (0 ≤ (wcf 2 (bb false q r s)).toInt ∧ (wcf 2 (bb false q r s)).toInt ≤ 6) ∧ (0 ≤ (wcf 3 (bb false q r s)).toInt ∧ (wcf 3 (bb false q r s)).toInt ≤ 6) := by decide +kernel
  have z : (0 ≤ (wcf 1 (-1)).toInt ∧ (wcf 1 (-1)).toInt ≤ 6) ∧ (0 ≤ (wcf 2 (-1)).toInt ∧ (wcf 2 (-1)).toInt ≤ 6) ∧ (0 ≤ (wcf 3 (-1)).toInt ∧ (wcf 3 (-1)).toInt ≤ 6) := by decide +kernel
  obtain ⟨r, -, h⟩ := h
  rcases h with ⟨-, h⟩ | ⟨-, d0, d1, d2, d3, -, -, -, -, h⟩
  · rw [h]; exact z
  · rcases h with ⟨-, h⟩ | ⟨-, h⟩
    · rw [h]; exact z
    · rw [h]; exact b _ _ _
theorem fo_eq {N N2 : Nat} {I : Nat → Int32} {M : Nat → Nat → Int32} {x1 x2 x3 x4 a w1 w2 w3 : Int32} {J : Nat → Int32} {L : Int64} {K : Nat → Nat → Int32} {S : Int32 × (Nat → Int32) × Int64 × (Nat → Nat → Int32)} {g51 : (Nat → Int32) → Int64 → (Nat → Nat → Int32) → Int32 → Option (Int32 × (Nat → Int32) × Int64 × (Nat → Nat → Int32))} {g90 : (Nat → Int32) → Int64 → (Nat → Nat → Int32) → Int32 → Int32 → Option (Int32 × (Nat → Int32) × Int64 × (Nat → Nat → Int32))} (h1 : w1 = sm2 (fun k => wcf 1 (M 0 k)) 7) (h2 : w2 = sm2 (fun k => wcf 2 (M 0 k)) 7) (h3 : w3 = sm2 (fun k => wcf 3 (M 0 k)) 7) (p1 : 0 ≤ w1.toInt) (p2 : 0 ≤ w2.toInt) (p3 : 0 ≤ w3.toInt) (k1 : K 22 1 = w1) (k2 : K 22 2 = w2) (k3 : K 22 3 = w3) (h : fX3_setFollowed N I M = some a) (g : fX12_errors_L340 N2 x1 x2 x3 x4 g51 g90 N2 J L K 1 2 = some S) : a = S.1 ∧ S.2.1 = J := by
  unfold fX3_setFollowed at h
  have nz : ∀ (fu : Nat) (p q r : Int32), fX3_setFollowed_L6 N I M fu p q r = some a → ∃ f, fu = f + 1 := by
    intro fu p q r h
    cases fu with
    | zero => cases (show none = some a from h)
    | succ f => exact ⟨f, rfl⟩
  have nz2 : ∀ (fu : Nat) (p q : Int32), fX12_errors_L340 N2 x1 x2 x3 x4 g51 g90 fu J L K p q = some S → ∃ f, fu = f + 1 := by
    intro fu p q h
    cases fu with
    | zero => cases (show none = some S from h)
    | succ f => exact ⟨f, rfl⟩
  have st : ∀ (f : Nat) (p q r : Int32), ¬ (4 : Int32) ≤ r → fX3_setFollowed_L6 N I M (f + 1) p q r = some a → ∃ w, fX3_weightOf N I M r = some w ∧ ((w ≤ p ∧ fX3_setFollowed_L6 N I M f p q (r + 1) = some a) ∨ (¬ w ≤ p ∧ fX3_setFollowed_L6 N I M f w r (r + 1) = some a)) := by
    intro f p q r hr h
    rw [fX3_setFollowed_L6.eq_2] at h
    obtain ⟨w, e, h⟩ := wb_b (wb_f hr h)
    refine ⟨w, e, ?_⟩
    rcases ifr h with ⟨c, h⟩ | ⟨c, h⟩
    · obtain ⟨v, ev, h⟩ := wb_v h
      rw [ev] at h
      exact Or.inl ⟨c, h⟩
    · obtain ⟨v, ev, h⟩ := wb_v h
      rw [ev] at h
      exact Or.inr ⟨c, h⟩
  -- the class: three sets
  obtain ⟨f, e⟩ := nz _ _ _ _ h
  rw [show fX3_setFollowed_L6 N I M N 0 (-1) 1 = fX3_setFollowed_L6 N I M (f + 1) 0 (-1) 1 from congrArg (fun z => fX3_setFollowed_L6 N I M z 0 (-1) 1) e] at h
  have cls : ∃ gr fo : Int32, ((w1.toInt = 0 ∧ gr = 0 ∧ fo = -1) ∨ (0 < w1.toInt ∧ gr = w1 ∧ fo = 1)) ∧ ∃ gr2 fo2 : Int32, ((w2.toInt ≤ gr.toInt ∧ gr2 = gr ∧ fo2 = fo) ∨ (gr.toInt < w2.toInt ∧ gr2 = w2 ∧ fo2 = 2)) ∧ ((w3.toInt ≤ gr2.toInt ∧ a = fo2) ∨ (gr2.toInt < w3.toInt ∧ a = 3)) := by
    obtain ⟨w, ew, h⟩ := st f 0 (-1) 1 (by decide) h
    have ew := (er_w ew).trans h1.symm
    rw [ew] at h
    have third : ∀ (gr2 fo2 : Int32) (f : Nat), fX3_setFollowed_L6 N I M f gr2 fo2 (1 + 1 + 1) = some a → ((w3.toInt ≤ gr2.toInt ∧ a = fo2) ∨ (gr2.toInt < w3.toInt ∧ a = 3)) := by
      intro gr2 fo2 f h
      obtain ⟨f', e⟩ := nz _ _ _ _ h
      rw [e] at h
      obtain ⟨w, ew, h⟩ := st f' gr2 fo2 (1 + 1 + 1) (by decide) h
      rw [show (1 : Int32) + 1 + 1 = 3 from by decide] at ew
      have ew := (er_w ew).trans h3.symm
      rw [ew] at h
      rcases h with ⟨c, h⟩ | ⟨c, h⟩
      · have c := Int32.le_iff_toInt_le.mp c
        obtain ⟨f2, e⟩ := nz _ _ _ _ h
        rw [e, fX3_setFollowed_L6.eq_2] at h
        exact Or.inl ⟨c, (Option.some.inj (wb_t (by decide) h)).symm⟩
      · have c : ¬ _ := fun z => c (Int32.le_iff_toInt_le.mpr z)
        obtain ⟨f2, e⟩ := nz _ _ _ _ h
        rw [e, fX3_setFollowed_L6.eq_2] at h
        exact Or.inr ⟨by omega, ((Option.some.inj (wb_t (by decide) h)).symm).trans (by decide)⟩
    have second : ∀ (gr fo : Int32) (f : Nat), fX3_setFollowed_L6 N I M f gr fo (1 + 1) = some a → ∃ gr2 fo2 : Int32, ((w2.toInt ≤ gr.toInt ∧ gr2 = gr ∧ fo2 = fo) ∨ (gr.toInt < w2.toInt ∧ gr2 = w2 ∧ fo2 = 2)) ∧ ((w3.toInt ≤ gr2.toInt ∧ a = fo2) ∨ (gr2.toInt < w3.toInt ∧ a = 3)) := by
      intro gr fo f h
      obtain ⟨f', e⟩ := nz _ _ _ _ h
      rw [e] at h
      obtain ⟨w, ew, h⟩ := st f' gr fo (1 + 1) (by decide) h
      rw [show (1 : Int32) + 1 = 2 from by decide] at ew
      have ew := (er_w ew).trans h2.symm
      rw [ew] at h
      rcases h with ⟨c, h⟩ | ⟨c, h⟩
      · have c := Int32.le_iff_toInt_le.mp c
        exact ⟨gr, fo, Or.inl ⟨c, rfl, rfl⟩, third _ _ _ h⟩
      · have c : ¬ _ := fun z => c (Int32.le_iff_toInt_le.mpr z)
        exact ⟨w2, 2, Or.inr ⟨by omega, rfl, rfl⟩, third _ _ _ h⟩
    rcases h with ⟨c, h⟩ | ⟨c, h⟩
    · have c := (le32 rfl ni0).mp c
      exact ⟨0, -1, Or.inl ⟨by omega, rfl, rfl⟩, second _ _ _ h⟩
    · have c : ¬ _ := fun z => c ((le32 rfl ni0).mpr z)
      exact ⟨w1, 1, Or.inr ⟨by omega, rfl, rfl⟩, second _ _ _ h⟩
  -- the reference
  have kv : ∀ p : Int32, (p = 1 ∨ p = 2 ∨ p = 3) → K 22 p.toNatClampNeg = if p = 1 then w1 else if p = 2 then w2 else w3 := by
    intro p hp
    rcases hp with rfl | rfl | rfl
    · rw [if_pos rfl]; exact k1
    · rw [if_neg (by decide), if_pos rfl]; exact k2
    · rw [if_neg (by decide), if_neg (by decide)]; exact k3
  have fin : ∀ (f : Nat) (p : Int32), (p = 1 ∨ p = 2 ∨ p = 3) → fX12_errors_L340 N2 x1 x2 x3 x4 g51 g90 f J L K p 4 = some S → S.2.1 = J ∧ ((K 22 p.toNatClampNeg = 0 ∧ S.1 = -1) ∨ (¬ K 22 p.toNatClampNeg = 0 ∧ S.1 = p)) := by
    intro f p hp g
    obtain ⟨f', e⟩ := nz2 _ _ _ g
    rw [e, fX12_errors_L340.eq_2] at g
    have g := wb_t (by decide) g
    obtain ⟨-, g⟩ := wb_n g
    rcases ifr g with ⟨c, g⟩ | ⟨c, g⟩
    · rw [← Option.some.inj g]; exact ⟨rfl, Or.inl ⟨c, rfl⟩⟩
    · rw [← Option.some.inj g]; exact ⟨rfl, Or.inr ⟨c, rfl⟩⟩
  have st2 : ∀ (f : Nat) (p q : Int32), ¬ (4 : Int32) ≤ q → fX12_errors_L340 N2 x1 x2 x3 x4 g51 g90 f J L K p q = some S → ∃ f', (K 22 q.toNatClampNeg ≤ K 22 p.toNatClampNeg ∧ fX12_errors_L340 N2 x1 x2 x3 x4 g51 g90 f' J L K p (q + 1) = some S) ∨ (¬ K 22 q.toNatClampNeg ≤ K 22 p.toNatClampNeg ∧ fX12_errors_L340 N2 x1 x2 x3 x4 g51 g90 f' J L K q (q + 1) = some S) := by
    intro f p q hq g
    obtain ⟨f', e⟩ := nz2 _ _ _ g
    rw [e, fX12_errors_L340.eq_2] at g
    have g := wb_f hq g
    obtain ⟨-, g⟩ := wb_n g
    obtain ⟨-, g⟩ := wb_n g
    refine ⟨f', ?_⟩
    rcases ifr g with ⟨c, g⟩ | ⟨c, g⟩
    · obtain ⟨v, ev, g⟩ := wb_v g
      rw [ev] at g
      exact Or.inl ⟨c, g⟩
    · obtain ⟨v, ev, g⟩ := wb_v g
      rw [ev] at g
      exact Or.inr ⟨c, g⟩
  have zi : ∀ w : Int32, w = 0 ↔ w.toInt = 0 := fun w => eq32 rfl ni0
  obtain ⟨gr, fo, ca, gr2, fo2, cb, cc⟩ := cls
  obtain ⟨f1, g⟩ := st2 N2 1 2 (by decide) g
  rw [kv 2 (by decide), kv 1 (by decide), if_pos rfl, if_neg (by decide), if_pos rfl, show (2 : Int32) + 1 = 3 from by decide] at g
  rcases g with ⟨c1, g⟩ | ⟨c1, g⟩
  · have c1 := Int32.le_iff_toInt_le.mp c1
    obtain ⟨f2, g⟩ := st2 f1 1 3 (by decide) g
    rw [kv 3 (by decide), kv 1 (by decide), if_pos rfl, if_neg (by decide), if_neg (by decide), show (3 : Int32) + 1 = 4 from by decide] at g
    rcases g with ⟨c2, g⟩ | ⟨c2, g⟩
    · have c2 := Int32.le_iff_toInt_le.mp c2
      obtain ⟨s1, s2⟩ := fin f2 1 (by decide) g
      rw [kv 1 (by decide), if_pos rfl, zi] at s2
      refine ⟨?_, s1⟩
      rcases ca with ⟨a1, rfl, rfl⟩ | ⟨a1, rfl, rfl⟩
      · rcases cb with ⟨b1, rfl, rfl⟩ | ⟨b1, rfl, rfl⟩
        · rcases cc with ⟨d1, rfl⟩ | ⟨d1, rfl⟩
          · rcases s2 with ⟨s2, s3⟩ | ⟨s2, s3⟩
            · exact s3.symm
            · omega
          · rw [ni0] at d1; omega
        · rw [ni0] at b1; omega
      · rcases cb with ⟨b1, rfl, rfl⟩ | ⟨b1, rfl, rfl⟩
        · rcases cc with ⟨d1, rfl⟩ | ⟨d1, rfl⟩
          · rcases s2 with ⟨s2, s3⟩ | ⟨s2, s3⟩
            · omega
            · exact s3.symm
          · omega
        · omega
    · have c2 : ¬ _ := fun z => c2 (Int32.le_iff_toInt_le.mpr z)
      obtain ⟨s1, s2⟩ := fin f2 3 (by decide) g
      rw [kv 3 (by decide), if_neg (by decide), if_neg (by decide), zi] at s2
      refine ⟨?_, s1⟩
      rcases s2 with ⟨s2, s3⟩ | ⟨s2, s3⟩
      · omega
      · rw [s3]
        rcases ca with ⟨a1, rfl, rfl⟩ | ⟨a1, rfl, rfl⟩
        · rcases cb with ⟨b1, rfl, rfl⟩ | ⟨b1, rfl, rfl⟩
          · rcases cc with ⟨d1, rfl⟩ | ⟨d1, rfl⟩
            · rw [ni0] at d1; omega
            · rfl
          · rw [ni0] at b1; omega
        · rcases cb with ⟨b1, rfl, rfl⟩ | ⟨b1, rfl, rfl⟩
          · rcases cc with ⟨d1, rfl⟩ | ⟨d1, rfl⟩
            · omega
            · rfl
          · omega
  · have c1 : ¬ _ := fun z => c1 (Int32.le_iff_toInt_le.mpr z)
    obtain ⟨f2, g⟩ := st2 f1 2 3 (by decide) g
    rw [kv 3 (by decide), kv 2 (by decide), if_neg (by decide), if_neg (by decide), if_neg (by decide), if_pos rfl, show (3 : Int32) + 1 = 4 from by decide] at g
    rcases g with ⟨c2, g⟩ | ⟨c2, g⟩
    · have c2 := Int32.le_iff_toInt_le.mp c2
      obtain ⟨s1, s2⟩ := fin f2 2 (by decide) g
      rw [kv 2 (by decide), if_neg (by decide), if_pos rfl, zi] at s2
      refine ⟨?_, s1⟩
      rcases s2 with ⟨s2, s3⟩ | ⟨s2, s3⟩
      · omega
      · rw [s3]
        rcases ca with ⟨a1, rfl, rfl⟩ | ⟨a1, rfl, rfl⟩
        · rcases cb with ⟨b1, rfl, rfl⟩ | ⟨b1, rfl, rfl⟩
          · rw [ni0] at b1; omega
          · rcases cc with ⟨d1, rfl⟩ | ⟨d1, rfl⟩
            · rfl
            · omega
        · rcases cb with ⟨b1, rfl, rfl⟩ | ⟨b1, rfl, rfl⟩
          · omega
          · rcases cc with ⟨d1, rfl⟩ | ⟨d1, rfl⟩
            · rfl
            · omega
    · have c2 : ¬ _ := fun z => c2 (Int32.le_iff_toInt_le.mpr z)
      obtain ⟨s1, s2⟩ := fin f2 3 (by decide) g
      rw [kv 3 (by decide), if_neg (by decide), if_neg (by decide), zi] at s2
      refine ⟨?_, s1⟩
      rcases s2 with ⟨s2, s3⟩ | ⟨s2, s3⟩
      · omega
      · rw [s3]
        rcases ca with ⟨a1, rfl, rfl⟩ | ⟨a1, rfl, rfl⟩
        · rcases cb with ⟨b1, rfl, rfl⟩ | ⟨b1, rfl, rfl⟩
          · rw [ni0] at b1; omega
          · rcases cc with ⟨d1, rfl⟩ | ⟨d1, rfl⟩
            · omega
            · rfl
        · rcases cb with ⟨b1, rfl, rfl⟩ | ⟨b1, rfl, rfl⟩
          · omega
          · rcases cc with ⟨d1, rfl⟩ | ⟨d1, rfl⟩
            · omega
            · rfl
/-! ahead of the answers -/
/-- the latest BEST of both -/
noncomputable def QBR (I : Nat → Int32) (M : Nat → Nat → Int32) (J : Nat → Int32) (K : Nat → Nat → Int32) : Prop := (I 13 = 0 ∧ J 15 = -1) ∨ (I 13 = 1 ∧ I 18 = J 15 ∧ 1 ≤ (I 18).toInt ∧ ∀ j : Nat, j < 20 → (j : Int) < (I 18).toInt → M 16 j = K 17 j)
theorem QBR.cg {I I' J J' : Nat → Int32} {M M' K K' : Nat → Nat → Int32} (h : QBR I M J K) (a : I' 13 = I 13) (b : I' 18 = I 18) (c : M' 16 = M 16) (d : J' 15 = J 15) (e : K' 17 = K 17) : QBR I' M' J' K' := by
  unfold QBR at h ⊢
  rw [a, b, c, d, e]
  exact h
/-! SEARCH, image, LEAVES, outcomes: relations and answers -/
noncomputable def QSR (I : Nat → Int32) (M : Nat → Nat → Int32) (J : Nat → Int32) (K : Nat → Nat → Int32) : Prop := I 27 = J 16 ∧ (¬ I 27 = 0 → QS (wb_sh I 27) (M 18) (K 18))
noncomputable def QIR (I : Nat → Int32) (M : Nat → Nat → Int32) (J : Nat → Int32) (K : Nat → Nat → Int32) : Prop := I 34 = J 17 ∧ (¬ I 34 = 0 → QS (wb_sh I 34) (M 19) (K 19))
noncomputable def QL (I : Nat → Int32) (M : Nat → Nat → Int32) (J : Nat → Int32) (K : Nat → Nat → Int32) : Prop := ∀ b : Nat, b < 6 → M 24 b = K 27 b ∧ ∀ i : Nat, (i : Int) < (K 27 b).toInt → M 23 (20 * b + i) = K 28 (20 * b + i)
noncomputable def QO (I : Nat → Int32) (M : Nat → Nat → Int32) (J : Nat → Int32) (K : Nat → Nat → Int32) : Prop := OR M K
theorem QS.cg {i i' m m' k : Nat → Int32} (h : QS i m k) (a : ∀ j, j < 7 → i' j = i j) (b : m' 0 = m 0) : QS i' m' k := by
  unfold QS at h ⊢
  rw [a 1 (by omega), a 2 (by omega), a 3 (by omega), a 4 (by omega), a 5 (by omega), a 6 (by omega), b]
  exact h
theorem QSR.cg {I I' J J' : Nat → Int32} {M M' K K' : Nat → Nat → Int32} (h : QSR I M J K) (a : ∀ j, j < 34 → 27 ≤ j → I' j = I j) (c : M' 18 = M 18) (d : J' 16 = J 16) (e : K' 18 = K 18) : QSR I' M' J' K' := by
  unfold QSR at h ⊢
  rw [a 27 (by omega) (by omega), c, d, e]
  exact ⟨h.1, fun z => (h.2 z).cg (fun j hj => a (j + 27) (by omega) (by omega)) rfl⟩
theorem QIR.cg {I I' J J' : Nat → Int32} {M M' K K' : Nat → Nat → Int32} (h : QIR I M J K) (a : ∀ j, j < 41 → 34 ≤ j → I' j = I j) (c : M' 19 = M 19) (d : J' 17 = J 17) (e : K' 19 = K 19) : QIR I' M' J' K' := by
  unfold QIR at h ⊢
  rw [a 34 (by omega) (by omega), c, d, e]
  exact ⟨h.1, fun z => (h.2 z).cg (fun j hj => a (j + 34) (by omega) (by omega)) rfl⟩
theorem QL.cg {I I' J J' : Nat → Int32} {M M' K K' : Nat → Nat → Int32} (h : QL I M J K) (a : M' 23 = M 23) (b : M' 24 = M 24) (c : K' 27 = K 27) (d : K' 28 = K 28) : QL I' M' J' K' := by
  unfold QL at h ⊢
  rw [a, b, c, d]
  exact h
theorem QO.cg {I I' J J' : Nat → Int32} {M M' K K' : Nat → Nat → Int32} (h : QO I M J K) (a : M' 28 = M 28) (b : M' 29 = M 29) (c : M' 30 = M 30) (d : K' 32 = K 32) (e : K' 33 = K 33) (f : K' 34 = K 34) : QO I' M' J' K' := by
  unfold QO OR at h ⊢
  rw [a, b, c, d, e, f]
  exact h
/-! DAYS that are kept -/
/-! LEAVES -/
/-! how many -/
theorem an_errors {N : Nat} (hN : 3000000000 ≤ N) {I0 I1 : Nat → Int32} {M0 M1 : Nat → Nat → Int32} {L1 : Int64} {x1 x2 x3 x4 : Int32} {o : Nat → Int64} {r : Int32 × (Nat → Int32) × (Nat → Nat → Int32) × (Nat → Int64)} {s : Int32 × (Nat → Int32) × Int64 × (Nat → Nat → Int32)} (k0 : KX11 I0 M0) (k1 : KX12 I1 M1) (e1 : fL_errors N I0 M0 x1 x2 x3 x4 o = some r) (e3 : fX12_errors N I1 L1 M1 x1 x2 x3 x4 = some s) (hr : RR I0 M0 I1 M1) : s.2.1 0 = r.1 ∧ (r.1 = 0 → r.2.2.2 0 = s.1.toInt64) := by
  unfold fL_errors at e1
  have hr0 := hr.j0 0
  have u1 : (upd I1 0 0 1).toInt = (I1 1).toInt := rfl
  have ht := hr.2.2
  have er := hr.2.1
  have h91 := congrArg Int32.toInt ht.1
  have u2 : (((1 : Int32), upd I1 0 0, L1, M1).snd.fst 1).toInt = (I1 1).toInt := rfl
  have i9 := k0.i9
  have key : ∀ q, fX11_errors N I0 M0 x1 x2 x3 x4 = some q → (q = .inl 1 ∧ s.2.1 0 = 1) ∨ ∃ a, q = .inr a ∧ s.2.1 0 = 0 ∧ a.1 = s.1 := by
    intro q h
    unfold fX11_errors at h
    rcases xbi h with ⟨k2, h13, h⟩ | ⟨n4, h13, h⟩
    · rcases nb11 h13 with ⟨-, z6⟩ | ⟨cb5, z6⟩
      · cases z6
      · have z6 := Sum.inl.inj z6
        rw [z6] at h
        unfold BW at cb5
        have g := e3
        unfold fX12_errors at g
        obtain ⟨r7, e8, g⟩ := wb_b g
        rcases iw12 e8 with ⟨c10, q9⟩ | ⟨c10, q9⟩
        · subst q9
          unfold BW at c10
          have g := wb_f (c := (1 : Int32) = 0) (by decide) g
          obtain ⟨r11, e12, g⟩ := wb_b g
          rcases ck_within12 (0) (1000000) (by decide) (by decide) e12 with ⟨q13, c14⟩ | ⟨q13, c14⟩
          · have g := wb_f (by rw [q13]; decide) g
            obtain ⟨r15, e16, g⟩ := wb_b g
            rcases ck_within12 (0) (10) (by decide) (by decide) e16 with ⟨q17, c18⟩ | ⟨q17, c18⟩
            · have g := wb_f (by rw [q17]; decide) g
              unfold fX12_errors_J36 at g
              obtain ⟨r19, e20, g⟩ := wb_b g
              rcases rt12 rfl (by decide) e20 with ⟨c22, q21⟩ | ⟨c22, q21⟩
              · subst q21
                have g := wb_f (c := (1 : Int32) = 0) (by decide) g
                exfalso
                omega
              · exact absurd c22 (show ¬ (1 : Int32) = 0 by decide)
            · have g := wb_t q17 g
              unfold fX12_errors_J35 at g
              unfold fX12_errors_J36 at g
              obtain ⟨r23, e24, g⟩ := wb_b g
              rcases rt12 rfl (by decide) e24 with ⟨c26, q25⟩ | ⟨c26, q25⟩
              · exact absurd rfl c26
              · subst q25
                have g := wb_t (c := (0 : Int32) = 0) rfl g
                have g := Option.some.inj g
                subst g
                exact Or.inl ⟨h, rfl⟩
          · have g := wb_t q13 g
            unfold fX12_errors_J35 at g
            unfold fX12_errors_J36 at g
            obtain ⟨r27, e28, g⟩ := wb_b g
            rcases rt12 rfl (by decide) e28 with ⟨c30, q29⟩ | ⟨c30, q29⟩
            · exact absurd rfl c30
            · subst q29
              have g := wb_t (c := (0 : Int32) = 0) rfl g
              have g := Option.some.inj g
              subst g
              exact Or.inl ⟨h, rfl⟩
        · subst q9
          unfold BW at c10
          have g := wb_t (c := (0 : Int32) = 0) rfl g
          have g := Option.some.inj g
          subst g
          exact Or.inl ⟨h, rfl⟩
    · rcases nb11 h13 with ⟨cb5, z6⟩ | ⟨-, z6⟩
      · have z6 := Sum.inr.inj z6
        rw [z6] at h
        unfold BW at cb5
        obtain ⟨r31, e32, h⟩ := wb_b h
        rcases ck_isDay e32 with ⟨q33, c34⟩ | ⟨q33, c34⟩
        · have h := wb_f (by rw [q33]; decide) h
          obtain ⟨r35, e36, h⟩ := wb_b h
          rcases ck_within (0) (10) (by decide) (by decide) e36 with ⟨q37, c38⟩ | ⟨q37, c38⟩
          · have h := wb_f (by rw [q37]; decide) h
            unfold fX11_errors_J30 at h
            rcases nd11 h with ⟨c39, h⟩ | ⟨c39, h⟩
            · exact absurd c39 (show ¬ (1 : Int32) = 0 by decide)
            · obtain ⟨a, ha, h⟩ := oki h
              have g := e3
              unfold fX12_errors at g
              obtain ⟨r40, e41, g⟩ := wb_b g
              rcases iw12 e41 with ⟨c43, q42⟩ | ⟨c43, q42⟩
              · subst q42
                unfold BW at c43
                have g := wb_f (c := (1 : Int32) = 0) (by decide) g
                obtain ⟨r44, e45, g⟩ := wb_b g
                rcases ck_within12 (0) (1000000) (by decide) (by decide) e45 with ⟨q46, c47⟩ | ⟨q46, c47⟩
                · have g := wb_f (by rw [q46]; decide) g
                  obtain ⟨r48, e49, g⟩ := wb_b g
                  rcases ck_within12 (0) (10) (by decide) (by decide) e49 with ⟨q50, c51⟩ | ⟨q50, c51⟩
                  · have g := wb_f (by rw [q50]; decide) g
                    unfold fX12_errors_J36 at g
                    obtain ⟨r52, e53, g⟩ := wb_b g
                    rcases rt12 rfl (by decide) e53 with ⟨c55, q54⟩ | ⟨c55, q54⟩
                    · subst q54
                      have g := wb_f (c := (1 : Int32) = 0) (by decide) g
                      obtain ⟨r2, f2, h⟩ := wb_b h
                      obtain ⟨I3, e3', h⟩ := wb_v h
                      obtain ⟨M4, e4', h⟩ := wb_v h
                      unfold fX3_setSharers at f2
                      have hc := ss_l N 0 (wb_sh I0 13) (wb_sh M0 15) r2 f2 (by omega) (fun k hk => absurd hk (by omega))
                      have m4 : ∀ k, wb_sh M4 15 0 k = r2.2 0 k := by
                        intro k
                        rw [e4']
                        show wb_in M0 15 1 r2.2 15 k = _
                        rw [wbi_in (by omega) (by omega)]
                      obtain ⟨g51, K2, hK, ev, g⟩ := er51 (K := M1) (r2.2 0) N 1 M1 g (by omega) (by omega) (fun _ _ => rfl) (fun t t1 t2 => by omega)
                      refine er90 (N := N) (Ic := I0) (K := M1) rfl hr0.2.2 er ⟨by omega, by omega⟩ hc (fun v' K' g9 ev g => ?_) N 0 0 K2 g (by omega) hK ev
                      have sme : ∀ f : Int32 → Int32, sm2 (fun k => f (wb_sh M4 15 0 k)) 7 = sm2 (fun k => f (r2.2 0 k)) 7 := fun f => congrArg (fun z => sm2 z 7) (funext fun k => by rw [m4])
                      obtain ⟨v1, ⟨a1, a2, a3⟩, ⟨b1, b2, b3⟩, d1, d2, d3⟩ := ev
                      have x4c : x4 = 0 ∨ x4 = 1 ∨ x4 = 2 ∨ x4 = 3 ∨ x4 = 4 ∨ x4 = 5 ∨ x4 = 6 ∨ x4 = 7 ∨ x4 = 8 ∨ x4 = 9 ∨ x4 = 10 := by
                        have e := nI_self (x := x4) (by omega)
                        rw [e]
                        have hl : x4.toInt.toNat ≤ 10 := by omega
                        generalize x4.toInt.toNat = t at hl
                        revert t
                        decide
                      rcases x4c with z | z | z | z | z | z | z | z | z | z | z
                      · have h := wb_t z h
                        have g := Option.some.inj (wb_t z g)
                        obtain ⟨q, eq, h⟩ := wb_b h
                        have h := Option.some.inj h
                        subst g
                        rw [← h] at ha
                        refine Or.inr ⟨_, ha, rfl, ?_⟩
                        show q = v'
                        rw [v1, er_n eq]
                        exact sme ecf
                      · rw [z] at h g
                        have h := wb_t (c := (1 : Int32) = 1) rfl (wb_f (c := (1 : Int32) = 0) (by decide) h)
                        have g := wb_t (c := (1 : Int32) ≤ 1) (by decide) (wb_f (c := (1 : Int32) = 0) (by decide) g)
                        obtain ⟨q, eq, h⟩ := wb_b h
                        have h := Option.some.inj h
                        rw [← h] at ha
                        have p : ∀ f : Int32 → Int32, (∀ k, k < 7 → 0 ≤ (f (r2.2 0 k)).toInt ∧ (f (r2.2 0 k)).toInt ≤ 6) → 0 ≤ (sm2 (fun k => f (wb_sh M4 15 0 k)) 7).toInt := fun f hf => by
                          rw [sme f]
                          exact (sm_rg (b := 6) (by omega) hf 7 (by omega)).1
                        obtain ⟨w1, w2⟩ := fo_eq (N2 := N) rfl rfl rfl (p (wcf 1) (fun k hk => (wc_rg (hc k hk)).1)) (p (wcf 2) (fun k hk => (wc_rg (hc k hk)).2.1)) (p (wcf 3) (fun k hk => (wc_rg (hc k hk)).2.2)) (d1.trans (sme (wcf 1)).symm) (d2.trans (sme (wcf 2)).symm) (d3.trans (sme (wcf 3)).symm) eq g
                        exact Or.inr ⟨_, ha, by rw [w2]; rfl, w1⟩
                      · rw [z] at h g
                        have h := wb_f (c := (2 : Int32) = 1) (by decide) (wb_f (c := (2 : Int32) = 0) (by decide) h)
                        have g := wb_f (c := (2 : Int32) ≤ 1) (by decide) (wb_f (c := (2 : Int32) = 0) (by decide) g)
                        obtain ⟨v5, e5, h⟩ := wb_v h
                        rw [show ((((2 : Int32) - 2) - ((2 : Int32) - 2) / 3 * 3) + 1) = (1 : Int32) from by decide] at e5
                        rw [e5] at h
                        have h := wb_f (c := (5 : Int32) ≤ 2) (by decide) h
                        have g := wb_f (c := (5 : Int32) ≤ 2) (by decide) g
                        rw [show ((2 : Int32) - 1).toNatClampNeg = 1 from by decide] at g
                        obtain ⟨-, g⟩ := wb_n g
                        have g := Option.some.inj g
                        obtain ⟨q, eq, h⟩ := wb_b h
                        have h := Option.some.inj h
                        subst g
                        rw [← h] at ha
                        exact Or.inr ⟨_, ha, rfl, (er_s eq).trans ((sme (scf 1)).trans a1.symm)⟩
                      · rw [z] at h g
                        have h := wb_f (c := (3 : Int32) = 1) (by decide) (wb_f (c := (3 : Int32) = 0) (by decide) h)
                        have g := wb_f (c := (3 : Int32) ≤ 1) (by decide) (wb_f (c := (3 : Int32) = 0) (by decide) g)
                        obtain ⟨v5, e5, h⟩ := wb_v h
                        rw [show ((((3 : Int32) - 2) - ((3 : Int32) - 2) / 3 * 3) + 1) = (2 : Int32) from by decide] at e5
                        rw [e5] at h
                        have h := wb_f (c := (5 : Int32) ≤ 3) (by decide) h
                        have g := wb_f (c := (5 : Int32) ≤ 3) (by decide) g
                        rw [show ((3 : Int32) - 1).toNatClampNeg = 2 from by decide] at g
                        obtain ⟨-, g⟩ := wb_n g
                        have g := Option.some.inj g
                        obtain ⟨q, eq, h⟩ := wb_b h
                        have h := Option.some.inj h
                        subst g
                        rw [← h] at ha
                        exact Or.inr ⟨_, ha, rfl, (er_s eq).trans ((sme (scf 2)).trans a2.symm)⟩
                      · rw [z] at h g
                        have h := wb_f (c := (4 : Int32) = 1) (by decide) (wb_f (c := (4 : Int32) = 0) (by decide) h)
                        have g := wb_f (c := (4 : Int32) ≤ 1) (by decide) (wb_f (c := (4 : Int32) = 0) (by decide) g)
                        obtain ⟨v5, e5, h⟩ := wb_v h
                        rw [show ((((4 : Int32) - 2) - ((4 : Int32) - 2) / 3 * 3) + 1) = (3 : Int32) from by decide] at e5
                        rw [e5] at h
                        have h := wb_f (c := (5 : Int32) ≤ 4) (by decide) h
                        have g := wb_f (c := (5 : Int32) ≤ 4) (by decide) g
                        rw [show ((4 : Int32) - 1).toNatClampNeg = 3 from by decide] at g
                        obtain ⟨-, g⟩ := wb_n g
                        have g := Option.some.inj g
                        obtain ⟨q, eq, h⟩ := wb_b h
                        have h := Option.some.inj h
                        subst g
                        rw [← h] at ha
                        exact Or.inr ⟨_, ha, rfl, (er_s eq).trans ((sme (scf 3)).trans a3.symm)⟩
                      · rw [z] at h g
                        have h := wb_f (c := (5 : Int32) = 1) (by decide) (wb_f (c := (5 : Int32) = 0) (by decide) h)
                        have g := wb_f (c := (5 : Int32) ≤ 1) (by decide) (wb_f (c := (5 : Int32) = 0) (by decide) g)
                        obtain ⟨v5, e5, h⟩ := wb_v h
                        rw [show ((((5 : Int32) - 2) - ((5 : Int32) - 2) / 3 * 3) + 1) = (1 : Int32) from by decide] at e5
                        rw [e5] at h
                        have h := wb_f (c := (8 : Int32) ≤ 5) (by decide) (wb_t (c := (5 : Int32) ≤ 5) (by decide) h)
                        have g := wb_f (c := (8 : Int32) ≤ 5) (by decide) (wb_t (c := (5 : Int32) ≤ 5) (by decide) g)
                        rw [show ((5 : Int32) - 4).toNatClampNeg = 1 from by decide] at g
                        obtain ⟨-, g⟩ := wb_n g
                        have g := Option.some.inj g
                        obtain ⟨q, eq, h⟩ := wb_b h
                        have h := Option.some.inj h
                        subst g
                        rw [← h] at ha
                        exact Or.inr ⟨_, ha, rfl, (er_a eq).trans ((sme (acf 1)).trans b1.symm)⟩
                      · rw [z] at h g
                        have h := wb_f (c := (6 : Int32) = 1) (by decide) (wb_f (c := (6 : Int32) = 0) (by decide) h)
                        have g := wb_f (c := (6 : Int32) ≤ 1) (by decide) (wb_f (c := (6 : Int32) = 0) (by decide) g)
                        obtain ⟨v5, e5, h⟩ := wb_v h
                        rw [show ((((6 : Int32) - 2) - ((6 : Int32) - 2) / 3 * 3) + 1) = (2 : Int32) from by decide] at e5
                        rw [e5] at h
                        have h := wb_f (c := (8 : Int32) ≤ 6) (by decide) (wb_t (c := (5 : Int32) ≤ 6) (by decide) h)
                        have g := wb_f (c := (8 : Int32) ≤ 6) (by decide) (wb_t (c := (5 : Int32) ≤ 6) (by decide) g)
                        rw [show ((6 : Int32) - 4).toNatClampNeg = 2 from by decide] at g
                        obtain ⟨-, g⟩ := wb_n g
                        have g := Option.some.inj g
                        obtain ⟨q, eq, h⟩ := wb_b h
                        have h := Option.some.inj h
                        subst g
                        rw [← h] at ha
                        exact Or.inr ⟨_, ha, rfl, (er_a eq).trans ((sme (acf 2)).trans b2.symm)⟩
                      · rw [z] at h g
                        have h := wb_f (c := (7 : Int32) = 1) (by decide) (wb_f (c := (7 : Int32) = 0) (by decide) h)
                        have g := wb_f (c := (7 : Int32) ≤ 1) (by decide) (wb_f (c := (7 : Int32) = 0) (by decide) g)
                        obtain ⟨v5, e5, h⟩ := wb_v h
                        rw [show ((((7 : Int32) - 2) - ((7 : Int32) - 2) / 3 * 3) + 1) = (3 : Int32) from by decide] at e5
                        rw [e5] at h
                        have h := wb_f (c := (8 : Int32) ≤ 7) (by decide) (wb_t (c := (5 : Int32) ≤ 7) (by decide) h)
                        have g := wb_f (c := (8 : Int32) ≤ 7) (by decide) (wb_t (c := (5 : Int32) ≤ 7) (by decide) g)
                        rw [show ((7 : Int32) - 4).toNatClampNeg = 3 from by decide] at g
                        obtain ⟨-, g⟩ := wb_n g
                        have g := Option.some.inj g
                        obtain ⟨q, eq, h⟩ := wb_b h
                        have h := Option.some.inj h
                        subst g
                        rw [← h] at ha
                        exact Or.inr ⟨_, ha, rfl, (er_a eq).trans ((sme (acf 3)).trans b3.symm)⟩
                      · rw [z] at h g
                        have h := wb_f (c := (8 : Int32) = 1) (by decide) (wb_f (c := (8 : Int32) = 0) (by decide) h)
                        have g := wb_f (c := (8 : Int32) ≤ 1) (by decide) (wb_f (c := (8 : Int32) = 0) (by decide) g)
                        obtain ⟨v5, e5, h⟩ := wb_v h
                        rw [show ((((8 : Int32) - 2) - ((8 : Int32) - 2) / 3 * 3) + 1) = (1 : Int32) from by decide] at e5
                        rw [e5] at h
                        have h := wb_t (c := (8 : Int32) ≤ 8) (by decide) (wb_t (c := (5 : Int32) ≤ 8) (by decide) h)
                        have g := wb_t (c := (8 : Int32) ≤ 8) (by decide) (wb_t (c := (5 : Int32) ≤ 8) (by decide) g)
                        rw [show ((8 : Int32) - 7).toNatClampNeg = 1 from by decide] at g
                        obtain ⟨-, g⟩ := wb_n g
                        have g := Option.some.inj g
                        obtain ⟨q, eq, h⟩ := wb_b h
                        have h := Option.some.inj h
                        subst g
                        rw [← h] at ha
                        exact Or.inr ⟨_, ha, rfl, (er_w eq).trans ((sme (wcf 1)).trans d1.symm)⟩
                      · rw [z] at h g
                        have h := wb_f (c := (9 : Int32) = 1) (by decide) (wb_f (c := (9 : Int32) = 0) (by decide) h)
                        have g := wb_f (c := (9 : Int32) ≤ 1) (by decide) (wb_f (c := (9 : Int32) = 0) (by decide) g)
                        obtain ⟨v5, e5, h⟩ := wb_v h
                        rw [show ((((9 : Int32) - 2) - ((9 : Int32) - 2) / 3 * 3) + 1) = (2 : Int32) from by decide] at e5
                        rw [e5] at h
                        have h := wb_t (c := (8 : Int32) ≤ 9) (by decide) (wb_t (c := (5 : Int32) ≤ 9) (by decide) h)
                        have g := wb_t (c := (8 : Int32) ≤ 9) (by decide) (wb_t (c := (5 : Int32) ≤ 9) (by decide) g)
                        rw [show ((9 : Int32) - 7).toNatClampNeg = 2 from by decide] at g
                        obtain ⟨-, g⟩ := wb_n g
                        have g := Option.some.inj g
                        obtain ⟨q, eq, h⟩ := wb_b h
                        have h := Option.some.inj h
                        subst g
                        rw [← h] at ha
                        exact Or.inr ⟨_, ha, rfl, (er_w eq).trans ((sme (wcf 2)).trans d2.symm)⟩
                      · rw [z] at h g
                        have h := wb_f (c := (10 : Int32) = 1) (by decide) (wb_f (c := (10 : Int32) = 0) (by decide) h)
                        have g := wb_f (c := (10 : Int32) ≤ 1) (by decide) (wb_f (c := (10 : Int32) = 0) (by decide) g)
                        obtain ⟨v5, e5, h⟩ := wb_v h
                        rw [show ((((10 : Int32) - 2) - ((10 : Int32) - 2) / 3 * 3) + 1) = (3 : Int32) from by decide] at e5
                        rw [e5] at h
                        have h := wb_t (c := (8 : Int32) ≤ 10) (by decide) (wb_t (c := (5 : Int32) ≤ 10) (by decide) h)
                        have g := wb_t (c := (8 : Int32) ≤ 10) (by decide) (wb_t (c := (5 : Int32) ≤ 10) (by decide) g)
                        rw [show ((10 : Int32) - 7).toNatClampNeg = 3 from by decide] at g
                        obtain ⟨-, g⟩ := wb_n g
                        have g := Option.some.inj g
                        obtain ⟨q, eq, h⟩ := wb_b h
                        have h := Option.some.inj h
                        subst g
                        rw [← h] at ha
                        exact Or.inr ⟨_, ha, rfl, (er_w eq).trans ((sme (wcf 3)).trans d3.symm)⟩
                    · exact absurd c55 (show ¬ (1 : Int32) = 0 by decide)
                  · have g := wb_t q50 g
                    unfold fX12_errors_J35 at g
                    unfold fX12_errors_J36 at g
                    obtain ⟨r56, e57, g⟩ := wb_b g
                    rcases rt12 rfl (by decide) e57 with ⟨c59, q58⟩ | ⟨c59, q58⟩
                    · exact absurd rfl c59
                    · subst q58
                      have g := wb_t (c := (0 : Int32) = 0) rfl g
                      have g := Option.some.inj g
                      subst g
                      exfalso
                      omega
                · have g := wb_t q46 g
                  unfold fX12_errors_J35 at g
                  unfold fX12_errors_J36 at g
                  obtain ⟨r60, e61, g⟩ := wb_b g
                  rcases rt12 rfl (by decide) e61 with ⟨c63, q62⟩ | ⟨c63, q62⟩
                  · exact absurd rfl c63
                  · subst q62
                    have g := wb_t (c := (0 : Int32) = 0) rfl g
                    have g := Option.some.inj g
                    subst g
                    exfalso
                    omega
              · subst q42
                unfold BW at c43
                have g := wb_t (c := (0 : Int32) = 0) rfl g
                have g := Option.some.inj g
                subst g
                exfalso
                omega
          · have h := wb_t q37 h
            unfold fX11_errors_J29 at h
            unfold fX11_errors_J30 at h
            rcases nd11 h with ⟨c64, h⟩ | ⟨c64, h⟩
            · have g := e3
              unfold fX12_errors at g
              obtain ⟨r65, e66, g⟩ := wb_b g
              rcases iw12 e66 with ⟨c68, q67⟩ | ⟨c68, q67⟩
              · subst q67
                unfold BW at c68
                have g := wb_f (c := (1 : Int32) = 0) (by decide) g
                obtain ⟨r69, e70, g⟩ := wb_b g
                rcases ck_within12 (0) (1000000) (by decide) (by decide) e70 with ⟨q71, c72⟩ | ⟨q71, c72⟩
                · have g := wb_f (by rw [q71]; decide) g
                  obtain ⟨r73, e74, g⟩ := wb_b g
                  rcases ck_within12 (0) (10) (by decide) (by decide) e74 with ⟨q75, c76⟩ | ⟨q75, c76⟩
                  · have g := wb_f (by rw [q75]; decide) g
                    unfold fX12_errors_J36 at g
                    obtain ⟨r77, e78, g⟩ := wb_b g
                    rcases rt12 rfl (by decide) e78 with ⟨c80, q79⟩ | ⟨c80, q79⟩
                    · subst q79
                      have g := wb_f (c := (1 : Int32) = 0) (by decide) g
                      exfalso
                      omega
                    · exact absurd c80 (show ¬ (1 : Int32) = 0 by decide)
                  · have g := wb_t q75 g
                    unfold fX12_errors_J35 at g
                    unfold fX12_errors_J36 at g
                    obtain ⟨r81, e82, g⟩ := wb_b g
                    rcases rt12 rfl (by decide) e82 with ⟨c84, q83⟩ | ⟨c84, q83⟩
                    · exact absurd rfl c84
                    · subst q83
                      have g := wb_t (c := (0 : Int32) = 0) rfl g
                      have g := Option.some.inj g
                      subst g
                      exact Or.inl ⟨h, rfl⟩
                · have g := wb_t q71 g
                  unfold fX12_errors_J35 at g
                  unfold fX12_errors_J36 at g
                  obtain ⟨r85, e86, g⟩ := wb_b g
                  rcases rt12 rfl (by decide) e86 with ⟨c88, q87⟩ | ⟨c88, q87⟩
                  · exact absurd rfl c88
                  · subst q87
                    have g := wb_t (c := (0 : Int32) = 0) rfl g
                    have g := Option.some.inj g
                    subst g
                    exact Or.inl ⟨h, rfl⟩
              · subst q67
                unfold BW at c68
                have g := wb_t (c := (0 : Int32) = 0) rfl g
                have g := Option.some.inj g
                subst g
                exact Or.inl ⟨h, rfl⟩
            · exact absurd rfl c64
        · have h := wb_t q33 h
          unfold fX11_errors_J29 at h
          unfold fX11_errors_J30 at h
          rcases nd11 h with ⟨c89, h⟩ | ⟨c89, h⟩
          · have g := e3
            unfold fX12_errors at g
            obtain ⟨r90, e91, g⟩ := wb_b g
            rcases iw12 e91 with ⟨c93, q92⟩ | ⟨c93, q92⟩
            · subst q92
              unfold BW at c93
              have g := wb_f (c := (1 : Int32) = 0) (by decide) g
              obtain ⟨r94, e95, g⟩ := wb_b g
              rcases ck_within12 (0) (1000000) (by decide) (by decide) e95 with ⟨q96, c97⟩ | ⟨q96, c97⟩
              · have g := wb_f (by rw [q96]; decide) g
                obtain ⟨r98, e99, g⟩ := wb_b g
                rcases ck_within12 (0) (10) (by decide) (by decide) e99 with ⟨q100, c101⟩ | ⟨q100, c101⟩
                · have g := wb_f (by rw [q100]; decide) g
                  unfold fX12_errors_J36 at g
                  obtain ⟨r102, e103, g⟩ := wb_b g
                  rcases rt12 rfl (by decide) e103 with ⟨c105, q104⟩ | ⟨c105, q104⟩
                  · subst q104
                    have g := wb_f (c := (1 : Int32) = 0) (by decide) g
                    exfalso
                    omega
                  · exact absurd c105 (show ¬ (1 : Int32) = 0 by decide)
                · have g := wb_t q100 g
                  unfold fX12_errors_J35 at g
                  unfold fX12_errors_J36 at g
                  obtain ⟨r106, e107, g⟩ := wb_b g
                  rcases rt12 rfl (by decide) e107 with ⟨c109, q108⟩ | ⟨c109, q108⟩
                  · exact absurd rfl c109
                  · subst q108
                    have g := wb_t (c := (0 : Int32) = 0) rfl g
                    have g := Option.some.inj g
                    subst g
                    exact Or.inl ⟨h, rfl⟩
              · have g := wb_t q96 g
                unfold fX12_errors_J35 at g
                unfold fX12_errors_J36 at g
                obtain ⟨r110, e111, g⟩ := wb_b g
                rcases rt12 rfl (by decide) e111 with ⟨c113, q112⟩ | ⟨c113, q112⟩
                · exact absurd rfl c113
                · subst q112
                  have g := wb_t (c := (0 : Int32) = 0) rfl g
                  have g := Option.some.inj g
                  subst g
                  exact Or.inl ⟨h, rfl⟩
            · subst q92
              unfold BW at c93
              have g := wb_t (c := (0 : Int32) = 0) rfl g
              have g := Option.some.inj g
              subst g
              exact Or.inl ⟨h, rfl⟩
          · exact absurd rfl c89
      · cases z6
  exact fin_1s e1 key
/-- class and reference side by side -/
def RQ (I0 : Nat → Int32) (M0 : Nat → Nat → Int32) (I1 : Nat → Int32) (M1 : Nat → Nat → Int32) : Prop := RR I0 M0 I1 M1 ∧ True
theorem RQ_fresh : RQ fx_I fx_M fm_I fm_M := ⟨RR_fresh, trivial⟩
theorem rq_feed {N : Nat} (hN : 3000000000 ≤ N) {I0 : Nat → Int32} {M0 : Nat → Nat → Int32} {I1 : Nat → Int32} {L1 : Int64} {M1 : Nat → Nat → Int32} {x1 : Int32} {x2 : Int32} {x3 : Int32} {x4 : Int32} {x5 : Int32} {r1} {r2} (e1 : fX11_feed N I0 M0 x1 x2 x3 x4 x5 = some r1) (e3 : fX12_feed N I1 L1 M1 x1 x2 x3 x4 x5 = some r2) (k0 : KX11 I0 M0) (k1 : KX12 I1 M1) (hr : RQ I0 M0 I1 M1) : RQ r1.2.1 r1.2.2 r2.2.1 r2.2.2.2 := by
  have f3 := fr_fX12_feed e3
  have f1 := fr_fX11_feed e1
  exact ⟨⟨hd_T_feed e1 e3 hr.1, hr.1.2.1.cg (f1.2 13 (by decide)) (f3.2 7 (by decide)), hr.1.2.2.cg (f1.1 9 (by decide)) (f1.1 10 (by decide)) (fun k h1 h2 => f1.2 k ((by decide : ∀ k, k < 7 → 1 ≤ k → ¬ k ∈ fwM_X11_feed) k h1 h2)) (f3.1 1 (by decide)) (f3.1 2 (by decide)) (fun k h1 => f3.2 k ((by decide : ∀ k, k < 7 → ¬ k ∈ fwM_X12_feed) k h1))⟩, trivial⟩
theorem rq_house {N : Nat} (hN : 3000000000 ≤ N) {I0 : Nat → Int32} {M0 : Nat → Nat → Int32} {I1 : Nat → Int32} {L1 : Int64} {M1 : Nat → Nat → Int32} {x1 : Int32} {o2 : Nat → Int64} {r1} {r3} (e1 : fL_house N I0 M0 x1 o2 = some r1) (e3 : fX12_house N I1 L1 M1 x1 = some r3) (k0 : KX11 I0 M0) (k1 : KX12 I1 M1) (hr : RQ I0 M0 I1 M1) : RQ r1.2.1 r1.2.2.1 r3.2.1 r3.2.2.2 := by
  have f3 := fr_fX12_house e3
  have f1 := fr_fL_house e1
  exact ⟨⟨(hs_house e1 e3 hr.1).1, hr.1.2.1.cg (f1.2 13 (by decide)) (f3.2 7 (by decide)), (hs_house e1 e3 hr.1).2⟩, trivial⟩
theorem rq_wheel {N : Nat} (hN : 3000000000 ≤ N) {I0 : Nat → Int32} {M0 : Nat → Nat → Int32} {I1 : Nat → Int32} {L1 : Int64} {M1 : Nat → Nat → Int32} {x1 : Int32} {x2 : Int32} {x3 : Int32} {o4 : Nat → Int64} {r1} {r3} (e1 : fL_wheel N I0 M0 x1 x2 x3 o4 = some r1) (e3 : fX12_wheel N I1 L1 M1 x1 x2 x3 = some r3) (k0 : KX11 I0 M0) (k1 : KX12 I1 M1) (hr : RQ I0 M0 I1 M1) : RQ r1.2.1 r1.2.2.1 r3.2.1 r3.2.2.2 := by
  have f3 := fr_fX12_wheel e3
  have f1 := fr_fL_wheel e1
  exact ⟨⟨(hs_wheel hN e1 e3 hr.1).1, (hs_wheel hN e1 e3 hr.1).2.1, hr.1.2.2.cg (f1.1 9 (by decide)) (f1.1 10 (by decide)) (fun k h1 h2 => f1.2 k ((by decide : ∀ k, k < 7 → 1 ≤ k → ¬ k ∈ fwM_L_wheel) k h1 h2)) (f3.1 1 (by decide)) (f3.1 2 (by decide)) (fun k h1 => f3.2 k ((by decide : ∀ k, k < 7 → ¬ k ∈ fwM_X12_wheel) k h1))⟩, trivial⟩
theorem rq_fault {N : Nat} (hN : 3000000000 ≤ N) {I0 : Nat → Int32} {M0 : Nat → Nat → Int32} {I1 : Nat → Int32} {L1 : Int64} {M1 : Nat → Nat → Int32} {r1} {r2} (e1 : fX11_fault N I0 M0  = some r1) (e3 : fX12_fault N I1 L1 M1  = some r2) (k0 : KX11 I0 M0) (k1 : KX12 I1 M1) (hr : RQ I0 M0 I1 M1) : RQ I0 M0 r2.2.1 r2.2.2.2 := by
  have f3 := fr_fX12_fault e3
  exact ⟨⟨hr.1.1.cg rfl (f3.1 3 (by decide)) rfl (f3.2 8 (by decide)), hr.1.2.1.cg rfl (f3.2 7 (by decide)), hr.1.2.2.cg rfl rfl (fun _ _ _ => rfl) (f3.1 1 (by decide)) (f3.1 2 (by decide)) (fun k h1 => f3.2 k ((by decide : ∀ k, k < 7 → ¬ k ∈ fwM_X12_fault) k h1))⟩, trivial⟩
theorem rq_count {N : Nat} (hN : 3000000000 ≤ N) {I0 : Nat → Int32} {M0 : Nat → Nat → Int32} {I1 : Nat → Int32} {L1 : Int64} {M1 : Nat → Nat → Int32} {x1 : Int32} {o2 : Nat → Int64} {r1} {r3} (e1 : fL_count N I0 M0 x1 o2 = some r1) (e3 : fX12_count N I1 L1 M1 x1 = some r3) (k0 : KX11 I0 M0) (k1 : KX12 I1 M1) (hr : RQ I0 M0 I1 M1) : RQ r1.2.1 r1.2.2.1 r3.2.1 r3.2.2.2 := by
  have f3 := fr_fX12_count e3
  have f1 := fr_fL_count e1
  exact ⟨⟨hr.1.1.cg (f1.1 0 (by decide)) (f3.1 3 (by decide)) (f1.2 0 (by decide)) (f3.2 8 (by decide)), hr.1.2.1.cg (f1.2 13 (by decide)) (f3.2 7 (by decide)), hr.1.2.2.cg (f1.1 9 (by decide)) (f1.1 10 (by decide)) (fun k h1 h2 => f1.2 k ((by decide : ∀ k, k < 7 → 1 ≤ k → ¬ k ∈ fwM_L_count) k h1 h2)) (f3.1 1 (by decide)) (f3.1 2 (by decide)) (fun k h1 => f3.2 k ((by decide : ∀ k, k < 7 → ¬ k ∈ fwM_X12_count) k h1))⟩, trivial⟩
theorem rq_place {N : Nat} (hN : 3000000000 ≤ N) {I0 : Nat → Int32} {M0 : Nat → Nat → Int32} {I1 : Nat → Int32} {L1 : Int64} {M1 : Nat → Nat → Int32} {x1 : Int32} {x2 : Int32} {x3 : Int32} {o4 : Nat → Int64} {r1} {r3} (e1 : fL_place N I0 M0 x1 x2 x3 o4 = some r1) (e3 : fX12_place N I1 L1 M1 x1 x2 x3 = some r3) (k0 : KX11 I0 M0) (k1 : KX12 I1 M1) (hr : RQ I0 M0 I1 M1) : RQ r1.2.1 r1.2.2.1 r3.2.1 r3.2.2.2 := by
  have f3 := fr_fX12_place e3
  have f1 := fr_fL_place e1
  exact ⟨⟨hr.1.1.cg (f1.1 0 (by decide)) (f3.1 3 (by decide)) (f1.2 0 (by decide)) (f3.2 8 (by decide)), hr.1.2.1.cg (f1.2 13 (by decide)) (f3.2 7 (by decide)), hr.1.2.2.cg (f1.1 9 (by decide)) (f1.1 10 (by decide)) (fun k h1 h2 => f1.2 k ((by decide : ∀ k, k < 7 → 1 ≤ k → ¬ k ∈ fwM_L_place) k h1 h2)) (f3.1 1 (by decide)) (f3.1 2 (by decide)) (fun k h1 => f3.2 k ((by decide : ∀ k, k < 7 → ¬ k ∈ fwM_X12_place) k h1))⟩, trivial⟩
theorem rq_entry {N : Nat} (hN : 3000000000 ≤ N) {I0 : Nat → Int32} {M0 : Nat → Nat → Int32} {I1 : Nat → Int32} {L1 : Int64} {M1 : Nat → Nat → Int32} {x1 : Int32} {x2 : Int32} {x3 : Int32} {o4 : Nat → Int64} {r1} {r3} (e1 : fL_entry N I0 M0 x1 x2 x3 o4 = some r1) (e3 : fX12_entry N I1 L1 M1 x1 x2 x3 = some r3) (k0 : KX11 I0 M0) (k1 : KX12 I1 M1) (hr : RQ I0 M0 I1 M1) : RQ r1.2.1 r1.2.2.1 r3.2.1 r3.2.2.2 := by
  have f3 := fr_fX12_entry e3
  have f1 := fr_fL_entry e1
  exact ⟨⟨hr.1.1.cg (f1.1 0 (by decide)) (f3.1 3 (by decide)) (f1.2 0 (by decide)) (f3.2 8 (by decide)), hr.1.2.1.cg (f1.2 13 (by decide)) (f3.2 7 (by decide)), hr.1.2.2.cg (f1.1 9 (by decide)) (f1.1 10 (by decide)) (fun k h1 h2 => f1.2 k ((by decide : ∀ k, k < 7 → 1 ≤ k → ¬ k ∈ fwM_L_entry) k h1 h2)) (f3.1 1 (by decide)) (f3.1 2 (by decide)) (fun k h1 => f3.2 k ((by decide : ∀ k, k < 7 → ¬ k ∈ fwM_X12_entry) k h1))⟩, trivial⟩
theorem rq_cost {N : Nat} (hN : 3000000000 ≤ N) {I0 : Nat → Int32} {M0 : Nat → Nat → Int32} {I1 : Nat → Int32} {L1 : Int64} {M1 : Nat → Nat → Int32} {x1 : Int32} {x2 : Int32} {x3 : Int32} {x4 : Int32} {o5 : Nat → Int64} {r1} {r3} (e1 : fL_cost N I0 M0 x1 x2 x3 x4 o5 = some r1) (e3 : fX12_cost N I1 L1 M1 x1 x2 x3 x4 = some r3) (k0 : KX11 I0 M0) (k1 : KX12 I1 M1) (hr : RQ I0 M0 I1 M1) : RQ r1.2.1 r1.2.2.1 r3.2.1 r3.2.2.2 := by
  have f3 := fr_fX12_cost e3
  have f1 := fr_fL_cost e1
  exact ⟨⟨hr.1.1.cg (f1.1 0 (by decide)) (f3.1 3 (by decide)) (f1.2 0 (by decide)) (f3.2 8 (by decide)), hr.1.2.1.cg (f1.2 13 (by decide)) (f3.2 7 (by decide)), hr.1.2.2.cg (f1.1 9 (by decide)) (f1.1 10 (by decide)) (fun k h1 h2 => f1.2 k ((by decide : ∀ k, k < 7 → 1 ≤ k → ¬ k ∈ fwM_L_cost) k h1 h2)) (f3.1 1 (by decide)) (f3.1 2 (by decide)) (fun k h1 => f3.2 k ((by decide : ∀ k, k < 7 → ¬ k ∈ fwM_X12_cost) k h1))⟩, trivial⟩
theorem rq_best {N : Nat} (hN : 3000000000 ≤ N) {I0 : Nat → Int32} {M0 : Nat → Nat → Int32} {I1 : Nat → Int32} {L1 : Int64} {M1 : Nat → Nat → Int32} {x1 : Int32} {x2 : Int32} {x3 : Int32} {x4 : Int32} {x5 : Int32} {o6 : Nat → Int64} {r1} {r3} (e1 : fL_best N I0 M0 x1 x2 x3 x4 x5 o6 = some r1) (e3 : fX12_best N I1 L1 M1 x1 x2 x3 x4 x5 = some r3) (k0 : KX11 I0 M0) (k1 : KX12 I1 M1) (hr : RQ I0 M0 I1 M1) : RQ r1.2.1 r1.2.2.1 r3.2.1 r3.2.2.2 := by
  have f3 := fr_fX12_best e3
  have f1 := fr_fL_best e1
  exact ⟨⟨hr.1.1.cg (f1.1 0 (by decide)) (f3.1 3 (by decide)) (f1.2 0 (by decide)) (f3.2 8 (by decide)), hr.1.2.1.cg (f1.2 13 (by decide)) (f3.2 7 (by decide)), hr.1.2.2.cg (f1.1 9 (by decide)) (f1.1 10 (by decide)) (fun k h1 h2 => f1.2 k ((by decide : ∀ k, k < 7 → 1 ≤ k → ¬ k ∈ fwM_L_best) k h1 h2)) (f3.1 1 (by decide)) (f3.1 2 (by decide)) (fun k h1 => f3.2 k ((by decide : ∀ k, k < 7 → ¬ k ∈ fwM_X12_best) k h1))⟩, trivial⟩
theorem rq_day {N : Nat} (hN : 3000000000 ≤ N) {I0 : Nat → Int32} {M0 : Nat → Nat → Int32} {I1 : Nat → Int32} {L1 : Int64} {M1 : Nat → Nat → Int32} {x1 : Int32} {o2 : Nat → Int64} {r1} {r3} (e1 : fL_day N I0 M0 x1 o2 = some r1) (e3 : fX12_day N I1 L1 M1 x1 = some r3) (k0 : KX11 I0 M0) (k1 : KX12 I1 M1) (hr : RQ I0 M0 I1 M1) : RQ r1.2.1 r1.2.2.1 r3.2.1 r3.2.2.2 := by
  have f3 := fr_fX12_day e3
  have f1 := fr_fL_day e1
  exact ⟨⟨hr.1.1.cg (f1.1 0 (by decide)) (f3.1 3 (by decide)) (f1.2 0 (by decide)) (f3.2 8 (by decide)), hr.1.2.1.cg (f1.2 13 (by decide)) (f3.2 7 (by decide)), hr.1.2.2.cg (f1.1 9 (by decide)) (f1.1 10 (by decide)) (fun k h1 h2 => f1.2 k ((by decide : ∀ k, k < 7 → 1 ≤ k → ¬ k ∈ fwM_L_day) k h1 h2)) (f3.1 1 (by decide)) (f3.1 2 (by decide)) (fun k h1 => f3.2 k ((by decide : ∀ k, k < 7 → ¬ k ∈ fwM_X12_day) k h1))⟩, trivial⟩
theorem rq_whose {N : Nat} (hN : 3000000000 ≤ N) {I0 : Nat → Int32} {M0 : Nat → Nat → Int32} {I1 : Nat → Int32} {L1 : Int64} {M1 : Nat → Nat → Int32} {x1 : Int32} {x2 : Int32} {x3 : Int32} {x4 : Int32} {x5 : Int32} {o6 : Nat → Int64} {r1} {r3} (e1 : fL_whose N I0 M0 x1 x2 x3 x4 x5 o6 = some r1) (e3 : fX12_whose N I1 L1 M1 x1 x2 x3 x4 x5 = some r3) (k0 : KX11 I0 M0) (k1 : KX12 I1 M1) (hr : RQ I0 M0 I1 M1) : RQ r1.2.1 r1.2.2.1 r3.2.1 r3.2.2.2 := by
  have f3 := fr_fX12_whose e3
  have f1 := fr_fL_whose e1
  exact ⟨⟨hr.1.1.cg (f1.1 0 (by decide)) (f3.1 3 (by decide)) (f1.2 0 (by decide)) (f3.2 8 (by decide)), hr.1.2.1.cg (f1.2 13 (by decide)) (f3.2 7 (by decide)), hr.1.2.2.cg (f1.1 9 (by decide)) (f1.1 10 (by decide)) (fun k h1 h2 => f1.2 k ((by decide : ∀ k, k < 7 → 1 ≤ k → ¬ k ∈ fwM_L_whose) k h1 h2)) (f3.1 1 (by decide)) (f3.1 2 (by decide)) (fun k h1 => f3.2 k ((by decide : ∀ k, k < 7 → ¬ k ∈ fwM_X12_whose) k h1))⟩, trivial⟩
theorem rq_mixed {N : Nat} (hN : 3000000000 ≤ N) {I0 : Nat → Int32} {M0 : Nat → Nat → Int32} {I1 : Nat → Int32} {L1 : Int64} {M1 : Nat → Nat → Int32} {x1 : Int32} {x2 : Int32} {x3 : Int32} {x4 : Int32} {o5 : Nat → Int64} {r1} {r3} (e1 : fL_mixed N I0 M0 x1 x2 x3 x4 o5 = some r1) (e3 : fX12_mixed N I1 L1 M1 x1 x2 x3 x4 = some r3) (k0 : KX11 I0 M0) (k1 : KX12 I1 M1) (hr : RQ I0 M0 I1 M1) : RQ r1.2.1 r1.2.2.1 r3.2.1 r3.2.2.2 := by
  have f3 := fr_fX12_mixed e3
  have f1 := fr_fL_mixed e1
  exact ⟨⟨hr.1.1.cg (f1.1 0 (by decide)) (f3.1 3 (by decide)) (f1.2 0 (by decide)) (f3.2 8 (by decide)), hr.1.2.1.cg (f1.2 13 (by decide)) (f3.2 7 (by decide)), hr.1.2.2.cg (f1.1 9 (by decide)) (f1.1 10 (by decide)) (fun k h1 h2 => f1.2 k ((by decide : ∀ k, k < 7 → 1 ≤ k → ¬ k ∈ fwM_L_mixed) k h1 h2)) (f3.1 1 (by decide)) (f3.1 2 (by decide)) (fun k h1 => f3.2 k ((by decide : ∀ k, k < 7 → ¬ k ∈ fwM_X12_mixed) k h1))⟩, trivial⟩
theorem rq_climb {N : Nat} (hN : 3000000000 ≤ N) {I0 : Nat → Int32} {M0 : Nat → Nat → Int32} {I1 : Nat → Int32} {L1 : Int64} {M1 : Nat → Nat → Int32} {x1 : Int32} {x2 : Int32} {o3 : Nat → Int64} {r1} {r3} (e1 : fL_climb N I0 M0 x1 x2 o3 = some r1) (e3 : fX12_climb N I1 L1 M1 x1 x2 = some r3) (k0 : KX11 I0 M0) (k1 : KX12 I1 M1) (hr : RQ I0 M0 I1 M1) : RQ r1.2.1 r1.2.2.1 r3.2.1 r3.2.2.2 := by
  have f3 := fr_fX12_climb e3
  have f1 := fr_fL_climb e1
  exact ⟨⟨hr.1.1.cg (f1.1 0 (by decide)) (f3.1 3 (by decide)) (f1.2 0 (by decide)) (f3.2 8 (by decide)), hr.1.2.1.cg (f1.2 13 (by decide)) (f3.2 7 (by decide)), hr.1.2.2.cg (f1.1 9 (by decide)) (f1.1 10 (by decide)) (fun k h1 h2 => f1.2 k ((by decide : ∀ k, k < 7 → 1 ≤ k → ¬ k ∈ fwM_L_climb) k h1 h2)) (f3.1 1 (by decide)) (f3.1 2 (by decide)) (fun k h1 => f3.2 k ((by decide : ∀ k, k < 7 → ¬ k ∈ fwM_X12_climb) k h1))⟩, trivial⟩
theorem rq_rise {N : Nat} (hN : 3000000000 ≤ N) {I0 : Nat → Int32} {M0 : Nat → Nat → Int32} {I1 : Nat → Int32} {L1 : Int64} {M1 : Nat → Nat → Int32} {x1 : Int32} {x2 : Int32} {x3 : Int32} {o4 : Nat → Int64} {r1} {r3} (e1 : fL_rise N I0 M0 x1 x2 x3 o4 = some r1) (e3 : fX12_rise N I1 L1 M1 x1 x2 x3 = some r3) (k0 : KX11 I0 M0) (k1 : KX12 I1 M1) (hr : RQ I0 M0 I1 M1) : RQ r1.2.1 r1.2.2.1 r3.2.1 r3.2.2.2 := by
  have f3 := fr_fX12_rise e3
  have f1 := fr_fL_rise e1
  exact ⟨⟨hr.1.1.cg (f1.1 0 (by decide)) (f3.1 3 (by decide)) (f1.2 0 (by decide)) (f3.2 8 (by decide)), hr.1.2.1.cg (f1.2 13 (by decide)) (f3.2 7 (by decide)), hr.1.2.2.cg (f1.1 9 (by decide)) (f1.1 10 (by decide)) (fun k h1 h2 => f1.2 k ((by decide : ∀ k, k < 7 → 1 ≤ k → ¬ k ∈ fwM_L_rise) k h1 h2)) (f3.1 1 (by decide)) (f3.1 2 (by decide)) (fun k h1 => f3.2 k ((by decide : ∀ k, k < 7 → ¬ k ∈ fwM_X12_rise) k h1))⟩, trivial⟩
theorem rq_middle {N : Nat} (hN : 3000000000 ≤ N) {I0 : Nat → Int32} {M0 : Nat → Nat → Int32} {I1 : Nat → Int32} {L1 : Int64} {M1 : Nat → Nat → Int32} {x1 : Int32} {x2 : Int32} {o3 : Nat → Int64} {r1} {r3} (e1 : fL_middle N I0 M0 x1 x2 o3 = some r1) (e3 : fX12_middle N I1 L1 M1 x1 x2 = some r3) (k0 : KX11 I0 M0) (k1 : KX12 I1 M1) (hr : RQ I0 M0 I1 M1) : RQ r1.2.1 r1.2.2.1 r3.2.1 r3.2.2.2 := by
  have f3 := fr_fX12_middle e3
  have f1 := fr_fL_middle e1
  exact ⟨⟨hr.1.1.cg (f1.1 0 (by decide)) (f3.1 3 (by decide)) (f1.2 0 (by decide)) (f3.2 8 (by decide)), hr.1.2.1.cg (f1.2 13 (by decide)) (f3.2 7 (by decide)), hr.1.2.2.cg (f1.1 9 (by decide)) (f1.1 10 (by decide)) (fun k h1 h2 => f1.2 k ((by decide : ∀ k, k < 7 → 1 ≤ k → ¬ k ∈ fwM_L_middle) k h1 h2)) (f3.1 1 (by decide)) (f3.1 2 (by decide)) (fun k h1 => f3.2 k ((by decide : ∀ k, k < 7 → ¬ k ∈ fwM_X12_middle) k h1))⟩, trivial⟩
theorem rq_hour {N : Nat} (hN : 3000000000 ≤ N) {I0 : Nat → Int32} {M0 : Nat → Nat → Int32} {I1 : Nat → Int32} {L1 : Int64} {M1 : Nat → Nat → Int32} {x1 : Int32} {x2 : Int32} {x3 : Int32} {o4 : Nat → Int64} {r1} {r3} (e1 : fL_hour N I0 M0 x1 x2 x3 o4 = some r1) (e3 : fX12_hour N I1 L1 M1 x1 x2 x3 = some r3) (k0 : KX11 I0 M0) (k1 : KX12 I1 M1) (hr : RQ I0 M0 I1 M1) : RQ r1.2.1 r1.2.2.1 r3.2.1 r3.2.2.2 := by
  have f3 := fr_fX12_hour e3
  have f1 := fr_fL_hour e1
  exact ⟨⟨hr.1.1.cg (f1.1 0 (by decide)) (f3.1 3 (by decide)) (f1.2 0 (by decide)) (f3.2 8 (by decide)), hr.1.2.1.cg (f1.2 13 (by decide)) (f3.2 7 (by decide)), hr.1.2.2.cg (f1.1 9 (by decide)) (f1.1 10 (by decide)) (fun k h1 h2 => f1.2 k ((by decide : ∀ k, k < 7 → 1 ≤ k → ¬ k ∈ fwM_L_hour) k h1 h2)) (f3.1 1 (by decide)) (f3.1 2 (by decide)) (fun k h1 => f3.2 k ((by decide : ∀ k, k < 7 → ¬ k ∈ fwM_X12_hour) k h1))⟩, trivial⟩
theorem rq_houseOf {N : Nat} (hN : 3000000000 ≤ N) {I0 : Nat → Int32} {M0 : Nat → Nat → Int32} {I1 : Nat → Int32} {L1 : Int64} {M1 : Nat → Nat → Int32} {x1 : Int32} {x2 : Int32} {x3 : Int32} {x4 : Int32} {o5 : Nat → Int64} {r1} {r3} (e1 : fL_houseOf N I0 M0 x1 x2 x3 x4 o5 = some r1) (e3 : fX12_houseOf N I1 L1 M1 x1 x2 x3 x4 = some r3) (k0 : KX11 I0 M0) (k1 : KX12 I1 M1) (hr : RQ I0 M0 I1 M1) : RQ r1.2.1 r1.2.2.1 r3.2.1 r3.2.2.2 := by
  have f3 := fr_fX12_houseOf e3
  have f1 := fr_fL_houseOf e1
  exact ⟨⟨hr.1.1.cg (f1.1 0 (by decide)) (f3.1 3 (by decide)) (f1.2 0 (by decide)) (f3.2 8 (by decide)), hr.1.2.1.cg (f1.2 13 (by decide)) (f3.2 7 (by decide)), hr.1.2.2.cg (f1.1 9 (by decide)) (f1.1 10 (by decide)) (fun k h1 h2 => f1.2 k ((by decide : ∀ k, k < 7 → 1 ≤ k → ¬ k ∈ fwM_L_houseOf) k h1 h2)) (f3.1 1 (by decide)) (f3.1 2 (by decide)) (fun k h1 => f3.2 k ((by decide : ∀ k, k < 7 → ¬ k ∈ fwM_X12_houseOf) k h1))⟩, trivial⟩
theorem rq_agree {N : Nat} (hN : 3000000000 ≤ N) {I0 : Nat → Int32} {M0 : Nat → Nat → Int32} {I1 : Nat → Int32} {L1 : Int64} {M1 : Nat → Nat → Int32} {x1 : Int32} {x2 : Int32} {x3 : Int32} {x4 : Int32} {o5 : Nat → Int64} {r1} {r3} (e1 : fL_agree N I0 M0 x1 x2 x3 x4 o5 = some r1) (e3 : fX12_agree N I1 L1 M1 x1 x2 x3 x4 = some r3) (k0 : KX11 I0 M0) (k1 : KX12 I1 M1) (hr : RQ I0 M0 I1 M1) : RQ r1.2.1 r1.2.2.1 r3.2.1 r3.2.2.2 := by
  have f3 := fr_fX12_agree e3
  have f1 := fr_fL_agree e1
  exact ⟨⟨hr.1.1.cg (f1.1 0 (by decide)) (f3.1 3 (by decide)) (f1.2 0 (by decide)) (f3.2 8 (by decide)), hr.1.2.1.cg (f1.2 13 (by decide)) (f3.2 7 (by decide)), hr.1.2.2.cg (f1.1 9 (by decide)) (f1.1 10 (by decide)) (fun k h1 h2 => f1.2 k ((by decide : ∀ k, k < 7 → 1 ≤ k → ¬ k ∈ fwM_L_agree) k h1 h2)) (f3.1 1 (by decide)) (f3.1 2 (by decide)) (fun k h1 => f3.2 k ((by decide : ∀ k, k < 7 → ¬ k ∈ fwM_X12_agree) k h1))⟩, trivial⟩
theorem rq_lot {N : Nat} (hN : 3000000000 ≤ N) {I0 : Nat → Int32} {M0 : Nat → Nat → Int32} {I1 : Nat → Int32} {L1 : Int64} {M1 : Nat → Nat → Int32} {x1 : Int32} {x2 : Int32} {x3 : Int32} {o4 : Nat → Int64} {r1} {r3} (e1 : fL_lot N I0 M0 x1 x2 x3 o4 = some r1) (e3 : fX12_lot N I1 L1 M1 x1 x2 x3 = some r3) (k0 : KX11 I0 M0) (k1 : KX12 I1 M1) (hr : RQ I0 M0 I1 M1) : RQ r1.2.1 r1.2.2.1 r3.2.1 r3.2.2.2 := by
  have f3 := fr_fX12_lot e3
  have f1 := fr_fL_lot e1
  exact ⟨⟨hr.1.1.cg (f1.1 0 (by decide)) (f3.1 3 (by decide)) (f1.2 0 (by decide)) (f3.2 8 (by decide)), hr.1.2.1.cg (f1.2 13 (by decide)) (f3.2 7 (by decide)), hr.1.2.2.cg (f1.1 9 (by decide)) (f1.1 10 (by decide)) (fun k h1 h2 => f1.2 k ((by decide : ∀ k, k < 7 → 1 ≤ k → ¬ k ∈ fwM_L_lot) k h1 h2)) (f3.1 1 (by decide)) (f3.1 2 (by decide)) (fun k h1 => f3.2 k ((by decide : ∀ k, k < 7 → ¬ k ∈ fwM_X12_lot) k h1))⟩, trivial⟩
theorem rq_price {N : Nat} (hN : 3000000000 ≤ N) {I0 : Nat → Int32} {M0 : Nat → Nat → Int32} {I1 : Nat → Int32} {L1 : Int64} {M1 : Nat → Nat → Int32} {x1 : Int32} {x2 : Int32} {o3 : Nat → Int64} {r1} {r3} (e1 : fL_price N I0 M0 x1 x2 o3 = some r1) (e3 : fX12_price N I1 L1 M1 x1 x2 = some r3) (k0 : KX11 I0 M0) (k1 : KX12 I1 M1) (hr : RQ I0 M0 I1 M1) : RQ r1.2.1 r1.2.2.1 r3.2.1 r3.2.2.2 := by
  have f3 := fr_fX12_price e3
  have f1 := fr_fL_price e1
  exact ⟨⟨hr.1.1.cg (f1.1 0 (by decide)) (f3.1 3 (by decide)) (f1.2 0 (by decide)) (f3.2 8 (by decide)), hr.1.2.1.cg (f1.2 13 (by decide)) (f3.2 7 (by decide)), hr.1.2.2.cg (f1.1 9 (by decide)) (f1.1 10 (by decide)) (fun k h1 h2 => f1.2 k ((by decide : ∀ k, k < 7 → 1 ≤ k → ¬ k ∈ fwM_L_price) k h1 h2)) (f3.1 1 (by decide)) (f3.1 2 (by decide)) (fun k h1 => f3.2 k ((by decide : ∀ k, k < 7 → ¬ k ∈ fwM_X12_price) k h1))⟩, trivial⟩
theorem rq_seek {N : Nat} (hN : 3000000000 ≤ N) {I0 : Nat → Int32} {M0 : Nat → Nat → Int32} {I1 : Nat → Int32} {L1 : Int64} {M1 : Nat → Nat → Int32} {x1 : Int32} {x2 : Int32} {x3 : Int32} {x4 : Int32} {r1} {r3} (e1 : fL_seek N I0 M0 x1 x2 x3 x4 = some r1) (e3 : fX12_seek N I1 L1 M1 x1 x2 x3 x4 = some r3) (k0 : KX11 I0 M0) (k1 : KX12 I1 M1) (hr : RQ I0 M0 I1 M1) : RQ r1.2.1 r1.2.2 r3.1 r3.2.2 := by
  have f3 := fr_fX12_seek e3
  have f1 := fr_fL_seek e1
  exact ⟨⟨hr.1.1.cg (f1.1 0 (by decide)) (f3.1 3 (by decide)) (f1.2 0 (by decide)) (f3.2 8 (by decide)), hr.1.2.1.cg (f1.2 13 (by decide)) (f3.2 7 (by decide)), hr.1.2.2.cg (f1.1 9 (by decide)) (f1.1 10 (by decide)) (fun k h1 h2 => f1.2 k ((by decide : ∀ k, k < 7 → 1 ≤ k → ¬ k ∈ fwM_L_seek) k h1 h2)) (f3.1 1 (by decide)) (f3.1 2 (by decide)) (fun k h1 => f3.2 k ((by decide : ∀ k, k < 7 → ¬ k ∈ fwM_X12_seek) k h1))⟩, trivial⟩
theorem rq_on {N : Nat} (hN : 3000000000 ≤ N) {I0 : Nat → Int32} {M0 : Nat → Nat → Int32} {I1 : Nat → Int32} {L1 : Int64} {M1 : Nat → Nat → Int32} {x1 : Int32} {o2 : Nat → Int64} {r1} {r3} (e1 : fL_on N I0 M0 x1 o2 = some r1) (e3 : fX12_on N I1 L1 M1 x1 = some r3) (k0 : KX11 I0 M0) (k1 : KX12 I1 M1) (hr : RQ I0 M0 I1 M1) : RQ r1.2.1 r1.2.2.1 r3.2.1 r3.2.2.2 := by
  have f3 := fr_fX12_on e3
  have f1 := fr_fL_on e1
  exact ⟨⟨hr.1.1.cg (f1.1 0 (by decide)) (f3.1 3 (by decide)) (f1.2 0 (by decide)) (f3.2 8 (by decide)), hr.1.2.1.cg (f1.2 13 (by decide)) (f3.2 7 (by decide)), hr.1.2.2.cg (f1.1 9 (by decide)) (f1.1 10 (by decide)) (fun k h1 h2 => f1.2 k ((by decide : ∀ k, k < 7 → 1 ≤ k → ¬ k ∈ fwM_L_on) k h1 h2)) (f3.1 1 (by decide)) (f3.1 2 (by decide)) (fun k h1 => f3.2 k ((by decide : ∀ k, k < 7 → ¬ k ∈ fwM_X12_on) k h1))⟩, trivial⟩
theorem rq_held {N : Nat} (hN : 3000000000 ≤ N) {I0 : Nat → Int32} {M0 : Nat → Nat → Int32} {I1 : Nat → Int32} {L1 : Int64} {M1 : Nat → Nat → Int32} {x1 : Int32} {o2 : Nat → Int64} {r1} {r3} (e1 : fL_held N I0 M0 x1 o2 = some r1) (e3 : fX12_held N I1 L1 M1 x1 = some r3) (k0 : KX11 I0 M0) (k1 : KX12 I1 M1) (hr : RQ I0 M0 I1 M1) : RQ r1.2.1 r1.2.2.1 r3.2.1 r3.2.2.2 := by
  have f3 := fr_fX12_held e3
  have f1 := fr_fL_held e1
  exact ⟨⟨hr.1.1.cg (f1.1 0 (by decide)) (f3.1 3 (by decide)) (f1.2 0 (by decide)) (f3.2 8 (by decide)), hr.1.2.1.cg (f1.2 13 (by decide)) (f3.2 7 (by decide)), hr.1.2.2.cg (f1.1 9 (by decide)) (f1.1 10 (by decide)) (fun k h1 h2 => f1.2 k ((by decide : ∀ k, k < 7 → 1 ≤ k → ¬ k ∈ fwM_L_held) k h1 h2)) (f3.1 1 (by decide)) (f3.1 2 (by decide)) (fun k h1 => f3.2 k ((by decide : ∀ k, k < 7 → ¬ k ∈ fwM_X12_held) k h1))⟩, trivial⟩
theorem rq_image {N : Nat} (hN : 3000000000 ≤ N) {I0 : Nat → Int32} {M0 : Nat → Nat → Int32} {I1 : Nat → Int32} {L1 : Int64} {M1 : Nat → Nat → Int32} {r1} {r2} (e1 : fX11_image N I0 M0  = some r1) (e3 : fX12_image N I1 L1 M1  = some r2) (k0 : KX11 I0 M0) (k1 : KX12 I1 M1) (hr : RQ I0 M0 I1 M1) : RQ r1.2.1 r1.2.2 r2.2.1 r2.2.2.2 := by
  have f3 := fr_fX12_image e3
  have f1 := fr_fX11_image e1
  exact ⟨⟨hr.1.1.cg (f1.1 0 (by decide)) (f3.1 3 (by decide)) (f1.2 0 (by decide)) (f3.2 8 (by decide)), hr.1.2.1.cg (f1.2 13 (by decide)) (f3.2 7 (by decide)), hr.1.2.2.cg (f1.1 9 (by decide)) (f1.1 10 (by decide)) (fun k h1 h2 => f1.2 k ((by decide : ∀ k, k < 7 → 1 ≤ k → ¬ k ∈ fwM_X11_image) k h1 h2)) (f3.1 1 (by decide)) (f3.1 2 (by decide)) (fun k h1 => f3.2 k ((by decide : ∀ k, k < 7 → ¬ k ∈ fwM_X12_image) k h1))⟩, trivial⟩
theorem rq_restore {N : Nat} (hN : 3000000000 ≤ N) {I0 : Nat → Int32} {M0 : Nat → Nat → Int32} {I1 : Nat → Int32} {L1 : Int64} {M1 : Nat → Nat → Int32} {r1} {r2} (e1 : fX11_restore N I0 M0  = some r1) (e3 : fX12_restore N I1 L1 M1  = some r2) (k0 : KX11 I0 M0) (k1 : KX12 I1 M1) (hr : RQ I0 M0 I1 M1) : RQ r1.2.1 r1.2.2 r2.2.1 r2.2.2.2 := by
  have f3 := fr_fX12_restore e3
  have f1 := fr_fX11_restore e1
  exact ⟨⟨hr.1.1.cg (f1.1 0 (by decide)) (f3.1 3 (by decide)) (f1.2 0 (by decide)) (f3.2 8 (by decide)), hr.1.2.1.cg (f1.2 13 (by decide)) (f3.2 7 (by decide)), hr.1.2.2.cg (f1.1 9 (by decide)) (f1.1 10 (by decide)) (fun k h1 h2 => f1.2 k ((by decide : ∀ k, k < 7 → 1 ≤ k → ¬ k ∈ fwM_X11_restore) k h1 h2)) (f3.1 1 (by decide)) (f3.1 2 (by decide)) (fun k h1 => f3.2 k ((by decide : ∀ k, k < 7 → ¬ k ∈ fwM_X12_restore) k h1))⟩, trivial⟩
theorem rq_misread {N : Nat} (hN : 3000000000 ≤ N) {I0 : Nat → Int32} {M0 : Nat → Nat → Int32} {I1 : Nat → Int32} {L1 : Int64} {M1 : Nat → Nat → Int32} {x1 : Int32} {x2 : Int32} {x3 : Int32} {x4 : Int32} {x5 : Int32} {o6 : Nat → Int64} {r1} {r3} (e1 : fL_misread N I0 M0 x1 x2 x3 x4 x5 o6 = some r1) (e3 : fX12_misread N I1 L1 M1 x1 x2 x3 x4 x5 = some r3) (k0 : KX11 I0 M0) (k1 : KX12 I1 M1) (hr : RQ I0 M0 I1 M1) : RQ r1.2.1 r1.2.2.1 r3.2.1 r3.2.2.2 := by
  have f3 := fr_fX12_misread e3
  have f1 := fr_fL_misread e1
  exact ⟨⟨hr.1.1.cg (f1.1 0 (by decide)) (f3.1 3 (by decide)) (f1.2 0 (by decide)) (f3.2 8 (by decide)), hr.1.2.1.cg (f1.2 13 (by decide)) (f3.2 7 (by decide)), hr.1.2.2.cg (f1.1 9 (by decide)) (f1.1 10 (by decide)) (fun k h1 h2 => f1.2 k ((by decide : ∀ k, k < 7 → 1 ≤ k → ¬ k ∈ fwM_L_misread) k h1 h2)) (f3.1 1 (by decide)) (f3.1 2 (by decide)) (fun k h1 => f3.2 k ((by decide : ∀ k, k < 7 → ¬ k ∈ fwM_X12_misread) k h1))⟩, trivial⟩
theorem rq_errors {N : Nat} (hN : 3000000000 ≤ N) {I0 : Nat → Int32} {M0 : Nat → Nat → Int32} {I1 : Nat → Int32} {L1 : Int64} {M1 : Nat → Nat → Int32} {x1 : Int32} {x2 : Int32} {x3 : Int32} {x4 : Int32} {o5 : Nat → Int64} {r1} {r3} (e1 : fL_errors N I0 M0 x1 x2 x3 x4 o5 = some r1) (e3 : fX12_errors N I1 L1 M1 x1 x2 x3 x4 = some r3) (k0 : KX11 I0 M0) (k1 : KX12 I1 M1) (hr : RQ I0 M0 I1 M1) : RQ r1.2.1 r1.2.2.1 r3.2.1 r3.2.2.2 := by
  have f3 := fr_fX12_errors e3
  have f1 := fr_fL_errors e1
  exact ⟨⟨hr.1.1.cg (f1.1 0 (by decide)) (f3.1 3 (by decide)) (f1.2 0 (by decide)) (f3.2 8 (by decide)), hr.1.2.1.cg (f1.2 13 (by decide)) (f3.2 7 (by decide)), hr.1.2.2.cg (f1.1 9 (by decide)) (f1.1 10 (by decide)) (fun k h1 h2 => f1.2 k ((by decide : ∀ k, k < 7 → 1 ≤ k → ¬ k ∈ fwM_L_errors) k h1 h2)) (f3.1 1 (by decide)) (f3.1 2 (by decide)) (fun k h1 => f3.2 k ((by decide : ∀ k, k < 7 → ¬ k ∈ fwM_X12_errors) k h1))⟩, trivial⟩
theorem rq_possible {N : Nat} (hN : 3000000000 ≤ N) {I0 : Nat → Int32} {M0 : Nat → Nat → Int32} {I1 : Nat → Int32} {L1 : Int64} {M1 : Nat → Nat → Int32} {x1 : Int32} {x2 : Int32} {x3 : Int32} {o4 : Nat → Int64} {r1} {r3} (e1 : fL_possible N I0 M0 x1 x2 x3 o4 = some r1) (e3 : fX12_possible N I1 L1 M1 x1 x2 x3 = some r3) (k0 : KX11 I0 M0) (k1 : KX12 I1 M1) (hr : RQ I0 M0 I1 M1) : RQ r1.2.1 r1.2.2.1 r3.2.1 r3.2.2.2 := by
  have f3 := fr_fX12_possible e3
  have f1 := fr_fL_possible e1
  exact ⟨⟨hr.1.1.cg (f1.1 0 (by decide)) (f3.1 3 (by decide)) (f1.2 0 (by decide)) (f3.2 8 (by decide)), hr.1.2.1.cg (f1.2 13 (by decide)) (f3.2 7 (by decide)), hr.1.2.2.cg (f1.1 9 (by decide)) (f1.1 10 (by decide)) (fun k h1 h2 => f1.2 k ((by decide : ∀ k, k < 7 → 1 ≤ k → ¬ k ∈ fwM_L_possible) k h1 h2)) (f3.1 1 (by decide)) (f3.1 2 (by decide)) (fun k h1 => f3.2 k ((by decide : ∀ k, k < 7 → ¬ k ∈ fwM_X12_possible) k h1))⟩, trivial⟩
theorem rq_slips {N : Nat} (hN : 3000000000 ≤ N) {I0 : Nat → Int32} {M0 : Nat → Nat → Int32} {I1 : Nat → Int32} {L1 : Int64} {M1 : Nat → Nat → Int32} {x1 : Int32} {x2 : Int32} {o3 : Nat → Int64} {r1} {r3} (e1 : fL_slips N I0 M0 x1 x2 o3 = some r1) (e3 : fX12_slips N I1 L1 M1 x1 x2 = some r3) (k0 : KX11 I0 M0) (k1 : KX12 I1 M1) (hr : RQ I0 M0 I1 M1) : RQ r1.2.1 r1.2.2.1 r3.2.1 r3.2.2.2 := by
  have f3 := fr_fX12_slips e3
  have f1 := fr_fL_slips e1
  exact ⟨⟨hr.1.1.cg (f1.1 0 (by decide)) (f3.1 3 (by decide)) (f1.2 0 (by decide)) (f3.2 8 (by decide)), hr.1.2.1.cg (f1.2 13 (by decide)) (f3.2 7 (by decide)), hr.1.2.2.cg (f1.1 9 (by decide)) (f1.1 10 (by decide)) (fun k h1 h2 => f1.2 k ((by decide : ∀ k, k < 7 → 1 ≤ k → ¬ k ∈ fwM_L_slips) k h1 h2)) (f3.1 1 (by decide)) (f3.1 2 (by decide)) (fun k h1 => f3.2 k ((by decide : ∀ k, k < 7 → ¬ k ∈ fwM_X12_slips) k h1))⟩, trivial⟩
theorem rq_handed {N : Nat} (hN : 3000000000 ≤ N) {I0 : Nat → Int32} {M0 : Nat → Nat → Int32} {I1 : Nat → Int32} {L1 : Int64} {M1 : Nat → Nat → Int32} {x1 : Int32} {x2 : Int32} {x3 : Int32} {o4 : Nat → Int64} {r1} {r3} (e1 : fL_handed N I0 M0 x1 x2 x3 o4 = some r1) (e3 : fX12_handed N I1 L1 M1 x1 x2 x3 = some r3) (k0 : KX11 I0 M0) (k1 : KX12 I1 M1) (hr : RQ I0 M0 I1 M1) : RQ r1.2.1 r1.2.2.1 r3.2.1 r3.2.2.2 := by
  have f3 := fr_fX12_handed e3
  have f1 := fr_fL_handed e1
  exact ⟨⟨hr.1.1.cg (f1.1 0 (by decide)) (f3.1 3 (by decide)) (f1.2 0 (by decide)) (f3.2 8 (by decide)), hr.1.2.1.cg (f1.2 13 (by decide)) (f3.2 7 (by decide)), hr.1.2.2.cg (f1.1 9 (by decide)) (f1.1 10 (by decide)) (fun k h1 h2 => f1.2 k ((by decide : ∀ k, k < 7 → 1 ≤ k → ¬ k ∈ fwM_L_handed) k h1 h2)) (f3.1 1 (by decide)) (f3.1 2 (by decide)) (fun k h1 => f3.2 k ((by decide : ∀ k, k < 7 → ¬ k ∈ fwM_X12_handed) k h1))⟩, trivial⟩
theorem rq_leaf {N : Nat} (hN : 3000000000 ≤ N) {I0 : Nat → Int32} {M0 : Nat → Nat → Int32} {I1 : Nat → Int32} {L1 : Int64} {M1 : Nat → Nat → Int32} {x1 : Int32} {x2 : Int32} {o3 : Nat → Int64} {r1} {r3} (e1 : fL_leaf N I0 M0 x1 x2 o3 = some r1) (e3 : fX12_leaf N I1 L1 M1 x1 x2 = some r3) (k0 : KX11 I0 M0) (k1 : KX12 I1 M1) (hr : RQ I0 M0 I1 M1) : RQ r1.2.1 r1.2.2.1 r3.2.1 r3.2.2.2 := by
  have f3 := fr_fX12_leaf e3
  have f1 := fr_fL_leaf e1
  exact ⟨⟨hr.1.1.cg (f1.1 0 (by decide)) (f3.1 3 (by decide)) (f1.2 0 (by decide)) (f3.2 8 (by decide)), hr.1.2.1.cg (f1.2 13 (by decide)) (f3.2 7 (by decide)), hr.1.2.2.cg (f1.1 9 (by decide)) (f1.1 10 (by decide)) (fun k h1 h2 => f1.2 k ((by decide : ∀ k, k < 7 → 1 ≤ k → ¬ k ∈ fwM_L_leaf) k h1 h2)) (f3.1 1 (by decide)) (f3.1 2 (by decide)) (fun k h1 => f3.2 k ((by decide : ∀ k, k < 7 → ¬ k ∈ fwM_X12_leaf) k h1))⟩, trivial⟩
theorem rq_order {N : Nat} (hN : 3000000000 ≤ N) {I0 : Nat → Int32} {M0 : Nat → Nat → Int32} {I1 : Nat → Int32} {L1 : Int64} {M1 : Nat → Nat → Int32} {x1 : Int32} {x2 : Int32} {x3 : Int32} {o4 : Nat → Int64} {r1} {r3} (e1 : fL_order N I0 M0 x1 x2 x3 o4 = some r1) (e3 : fX12_order N I1 L1 M1 x1 x2 x3 = some r3) (k0 : KX11 I0 M0) (k1 : KX12 I1 M1) (hr : RQ I0 M0 I1 M1) : RQ r1.2.1 r1.2.2.1 r3.2.1 r3.2.2.2 := by
  have f3 := fr_fX12_order e3
  have f1 := fr_fL_order e1
  exact ⟨⟨hr.1.1.cg (f1.1 0 (by decide)) (f3.1 3 (by decide)) (f1.2 0 (by decide)) (f3.2 8 (by decide)), hr.1.2.1.cg (f1.2 13 (by decide)) (f3.2 7 (by decide)), hr.1.2.2.cg (f1.1 9 (by decide)) (f1.1 10 (by decide)) (fun k h1 h2 => f1.2 k ((by decide : ∀ k, k < 7 → 1 ≤ k → ¬ k ∈ fwM_L_order) k h1 h2)) (f3.1 1 (by decide)) (f3.1 2 (by decide)) (fun k h1 => f3.2 k ((by decide : ∀ k, k < 7 → ¬ k ∈ fwM_X12_order) k h1))⟩, trivial⟩
theorem rq_same {N : Nat} (hN : 3000000000 ≤ N) {I0 : Nat → Int32} {M0 : Nat → Nat → Int32} {I1 : Nat → Int32} {L1 : Int64} {M1 : Nat → Nat → Int32} {x1 : Int32} {x2 : Int32} {x3 : Int32} {o4 : Nat → Int64} {r1} {r3} (e1 : fL_same N I0 M0 x1 x2 x3 o4 = some r1) (e3 : fX12_same N I1 L1 M1 x1 x2 x3 = some r3) (k0 : KX11 I0 M0) (k1 : KX12 I1 M1) (hr : RQ I0 M0 I1 M1) : RQ r1.2.1 r1.2.2.1 r3.2.1 r3.2.2.2 := by
  have f3 := fr_fX12_same e3
  have f1 := fr_fL_same e1
  exact ⟨⟨hr.1.1.cg (f1.1 0 (by decide)) (f3.1 3 (by decide)) (f1.2 0 (by decide)) (f3.2 8 (by decide)), hr.1.2.1.cg (f1.2 13 (by decide)) (f3.2 7 (by decide)), hr.1.2.2.cg (f1.1 9 (by decide)) (f1.1 10 (by decide)) (fun k h1 h2 => f1.2 k ((by decide : ∀ k, k < 7 → 1 ≤ k → ¬ k ∈ fwM_L_same) k h1 h2)) (f3.1 1 (by decide)) (f3.1 2 (by decide)) (fun k h1 => f3.2 k ((by decide : ∀ k, k < 7 → ¬ k ∈ fwM_X12_same) k h1))⟩, trivial⟩
theorem rq_births {N : Nat} (hN : 3000000000 ≤ N) {I0 : Nat → Int32} {M0 : Nat → Nat → Int32} {I1 : Nat → Int32} {L1 : Int64} {M1 : Nat → Nat → Int32} {x1 : Int32} {x2 : Int32} {o3 : Nat → Int64} {r1} {r3} (e1 : fL_births N I0 M0 x1 x2 o3 = some r1) (e3 : fX12_births N I1 L1 M1 x1 x2 = some r3) (k0 : KX11 I0 M0) (k1 : KX12 I1 M1) (hr : RQ I0 M0 I1 M1) : RQ r1.2.1 r1.2.2.1 r3.2.1 r3.2.2.2 := by
  have f3 := fr_fX12_births e3
  have f1 := fr_fL_births e1
  exact ⟨⟨hr.1.1.cg (f1.1 0 (by decide)) (f3.1 3 (by decide)) (f1.2 0 (by decide)) (f3.2 8 (by decide)), hr.1.2.1.cg (f1.2 13 (by decide)) (f3.2 7 (by decide)), hr.1.2.2.cg (f1.1 9 (by decide)) (f1.1 10 (by decide)) (fun k h1 h2 => f1.2 k ((by decide : ∀ k, k < 7 → 1 ≤ k → ¬ k ∈ fwM_L_births) k h1 h2)) (f3.1 1 (by decide)) (f3.1 2 (by decide)) (fun k h1 => f3.2 k ((by decide : ∀ k, k < 7 → ¬ k ∈ fwM_X12_births) k h1))⟩, trivial⟩
theorem rq_tree {N : Nat} (hN : 3000000000 ≤ N) {I0 : Nat → Int32} {M0 : Nat → Nat → Int32} {I1 : Nat → Int32} {L1 : Int64} {M1 : Nat → Nat → Int32} {r1} {r2} (e1 : fX11_tree N I0 M0  = some r1) (e3 : fX12_tree N I1 L1 M1  = some r2) (k0 : KX11 I0 M0) (k1 : KX12 I1 M1) (hr : RQ I0 M0 I1 M1) : RQ r1.2.1 r1.2.2 r2.2.1 r2.2.2.2 := by
  have f3 := fr_fX12_tree e3
  have f1 := fr_fX11_tree e1
  exact ⟨⟨hr.1.1.cg (f1.1 0 (by decide)) (f3.1 3 (by decide)) (f1.2 0 (by decide)) (f3.2 8 (by decide)), hr.1.2.1.cg (f1.2 13 (by decide)) (f3.2 7 (by decide)), hr.1.2.2.cg (f1.1 9 (by decide)) (f1.1 10 (by decide)) (fun k h1 h2 => f1.2 k ((by decide : ∀ k, k < 7 → 1 ≤ k → ¬ k ∈ fwM_X11_tree) k h1 h2)) (f3.1 1 (by decide)) (f3.1 2 (by decide)) (fun k h1 => f3.2 k ((by decide : ∀ k, k < 7 → ¬ k ∈ fwM_X12_tree) k h1))⟩, trivial⟩
theorem rq_whence {N : Nat} (hN : 3000000000 ≤ N) {I0 : Nat → Int32} {M0 : Nat → Nat → Int32} {I1 : Nat → Int32} {L1 : Int64} {M1 : Nat → Nat → Int32} {x1 : Int32} {o2 : Nat → Int64} {r1} {r3} (e1 : fL_whence N I0 M0 x1 o2 = some r1) (e3 : fX12_whence N I1 L1 M1 x1 = some r3) (k0 : KX11 I0 M0) (k1 : KX12 I1 M1) (hr : RQ I0 M0 I1 M1) : RQ r1.2.1 r1.2.2.1 r3.2.1 r3.2.2.2 := by
  have f3 := fr_fX12_whence e3
  have f1 := fr_fL_whence e1
  exact ⟨⟨hr.1.1.cg (f1.1 0 (by decide)) (f3.1 3 (by decide)) (f1.2 0 (by decide)) (f3.2 8 (by decide)), hr.1.2.1.cg (f1.2 13 (by decide)) (f3.2 7 (by decide)), hr.1.2.2.cg (f1.1 9 (by decide)) (f1.1 10 (by decide)) (fun k h1 h2 => f1.2 k ((by decide : ∀ k, k < 7 → 1 ≤ k → ¬ k ∈ fwM_L_whence) k h1 h2)) (f3.1 1 (by decide)) (f3.1 2 (by decide)) (fun k h1 => f3.2 k ((by decide : ∀ k, k < 7 → ¬ k ∈ fwM_X12_whence) k h1))⟩, trivial⟩
theorem rq_life {N : Nat} (hN : 3000000000 ≤ N) {I0 : Nat → Int32} {M0 : Nat → Nat → Int32} {I1 : Nat → Int32} {L1 : Int64} {M1 : Nat → Nat → Int32} {x1 : Int32} {x2 : Int32} {x3 : Int32} {o4 : Nat → Int64} {r1} {r3} (e1 : fL_life N I0 M0 x1 x2 x3 o4 = some r1) (e3 : fX12_life N I1 L1 M1 x1 x2 x3 = some r3) (k0 : KX11 I0 M0) (k1 : KX12 I1 M1) (hr : RQ I0 M0 I1 M1) : RQ r1.2.1 r1.2.2.1 r3.2.1 r3.2.2.2 := by
  have f3 := fr_fX12_life e3
  have f1 := fr_fL_life e1
  exact ⟨⟨hr.1.1.cg (f1.1 0 (by decide)) (f3.1 3 (by decide)) (f1.2 0 (by decide)) (f3.2 8 (by decide)), hr.1.2.1.cg (f1.2 13 (by decide)) (f3.2 7 (by decide)), hr.1.2.2.cg (f1.1 9 (by decide)) (f1.1 10 (by decide)) (fun k h1 h2 => f1.2 k ((by decide : ∀ k, k < 7 → 1 ≤ k → ¬ k ∈ fwM_L_life) k h1 h2)) (f3.1 1 (by decide)) (f3.1 2 (by decide)) (fun k h1 => f3.2 k ((by decide : ∀ k, k < 7 → ¬ k ∈ fwM_X12_life) k h1))⟩, trivial⟩
theorem rq_fate {N : Nat} (hN : 3000000000 ≤ N) {I0 : Nat → Int32} {M0 : Nat → Nat → Int32} {I1 : Nat → Int32} {L1 : Int64} {M1 : Nat → Nat → Int32} {x1 : Int32} {x2 : Int32} {o3 : Nat → Int64} {r1} {r3} (e1 : fL_fate N I0 M0 x1 x2 o3 = some r1) (e3 : fX12_fate N I1 L1 M1 x1 x2 = some r3) (k0 : KX11 I0 M0) (k1 : KX12 I1 M1) (hr : RQ I0 M0 I1 M1) : RQ r1.2.1 r1.2.2.1 r3.2.1 r3.2.2.2 := by
  have f3 := fr_fX12_fate e3
  have f1 := fr_fL_fate e1
  exact ⟨⟨hr.1.1.cg (f1.1 0 (by decide)) (f3.1 3 (by decide)) (f1.2 0 (by decide)) (f3.2 8 (by decide)), hr.1.2.1.cg (f1.2 13 (by decide)) (f3.2 7 (by decide)), hr.1.2.2.cg (f1.1 9 (by decide)) (f1.1 10 (by decide)) (fun k h1 h2 => f1.2 k ((by decide : ∀ k, k < 7 → 1 ≤ k → ¬ k ∈ fwM_L_fate) k h1 h2)) (f3.1 1 (by decide)) (f3.1 2 (by decide)) (fun k h1 => f3.2 k ((by decide : ∀ k, k < 7 → ¬ k ∈ fwM_X12_fate) k h1))⟩, trivial⟩
theorem rq_fates {N : Nat} (hN : 3000000000 ≤ N) {I0 : Nat → Int32} {M0 : Nat → Nat → Int32} {I1 : Nat → Int32} {L1 : Int64} {M1 : Nat → Nat → Int32} {x1 : Int32} {o2 : Nat → Int64} {r1} {r3} (e1 : fL_fates N I0 M0 x1 o2 = some r1) (e3 : fX12_fates N I1 L1 M1 x1 = some r3) (k0 : KX11 I0 M0) (k1 : KX12 I1 M1) (hr : RQ I0 M0 I1 M1) : RQ r1.2.1 r1.2.2.1 r3.2.1 r3.2.2.2 := by
  have f3 := fr_fX12_fates e3
  have f1 := fr_fL_fates e1
  exact ⟨⟨hr.1.1.cg (f1.1 0 (by decide)) (f3.1 3 (by decide)) (f1.2 0 (by decide)) (f3.2 8 (by decide)), hr.1.2.1.cg (f1.2 13 (by decide)) (f3.2 7 (by decide)), hr.1.2.2.cg (f1.1 9 (by decide)) (f1.1 10 (by decide)) (fun k h1 h2 => f1.2 k ((by decide : ∀ k, k < 7 → 1 ≤ k → ¬ k ∈ fwM_L_fates) k h1 h2)) (f3.1 1 (by decide)) (f3.1 2 (by decide)) (fun k h1 => f3.2 k ((by decide : ∀ k, k < 7 → ¬ k ∈ fwM_X12_fates) k h1))⟩, trivial⟩
theorem rq_hits {N : Nat} (hN : 3000000000 ≤ N) {I0 : Nat → Int32} {M0 : Nat → Nat → Int32} {I1 : Nat → Int32} {L1 : Int64} {M1 : Nat → Nat → Int32} {x1 : Int32} {x2 : Int32} {o3 : Nat → Int64} {r1} {r3} (e1 : fL_hits N I0 M0 x1 x2 o3 = some r1) (e3 : fX12_hits N I1 L1 M1 x1 x2 = some r3) (k0 : KX11 I0 M0) (k1 : KX12 I1 M1) (hr : RQ I0 M0 I1 M1) : RQ r1.2.1 r1.2.2.1 r3.2.1 r3.2.2.2 := by
  have f3 := fr_fX12_hits e3
  have f1 := fr_fL_hits e1
  exact ⟨⟨hr.1.1.cg (f1.1 0 (by decide)) (f3.1 3 (by decide)) (f1.2 0 (by decide)) (f3.2 8 (by decide)), hr.1.2.1.cg (f1.2 13 (by decide)) (f3.2 7 (by decide)), hr.1.2.2.cg (f1.1 9 (by decide)) (f1.1 10 (by decide)) (fun k h1 h2 => f1.2 k ((by decide : ∀ k, k < 7 → 1 ≤ k → ¬ k ∈ fwM_L_hits) k h1 h2)) (f3.1 1 (by decide)) (f3.1 2 (by decide)) (fun k h1 => f3.2 k ((by decide : ∀ k, k < 7 → ¬ k ∈ fwM_X12_hits) k h1))⟩, trivial⟩

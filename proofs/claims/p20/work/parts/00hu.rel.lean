theorem i64_of (x : Int32) : x.toInt64.toInt = x.toInt := Int32.toInt_toInt64 x
theorem i32_of {x : Int64} (h0 : -2147483648 ≤ x.toInt) (h1 : x.toInt ≤ 2147483647) : x.toInt32.toInt = x.toInt := by
  rw [Int64.toInt_toInt32]
  exact Int.bmod_eq_of_le (by omega) (by omega)
theorem rem32 {d p : Int32} (hd : 0 ≤ d.toInt) (hp : 1 ≤ p.toInt) : (d - d / p * p).toInt = d.toInt % p.toInt := ia_rem d p p.toInt rfl (by omega) hd
/-- the class's PLACE -/
theorem pl11 {N : Nat} {I : Nat → Int32} {M : Nat → Nat → Int32} {s k d r : Int32} (hd : 0 ≤ d.toInt) (hd2 : d.toInt ≤ 1000001) (hr : HRg (M 0 ((7 : Int32) * s + k).toNatClampNeg) (M 1 ((7 : Int32) * s + k).toNatClampNeg) (M 2 ((7 : Int32) * s + k).toNatClampNeg) (M 3 ((7 : Int32) * s + k).toNatClampNeg)) (h : fX5_placeOn N I M s k d = some r) : r.toInt = plc (M 0 ((7 : Int32) * s + k).toNatClampNeg).toInt (M 1 ((7 : Int32) * s + k).toNatClampNeg).toInt (M 2 ((7 : Int32) * s + k).toNatClampNeg).toInt (M 3 ((7 : Int32) * s + k).toNatClampNeg).toInt d.toInt := by
  unfold fX5_placeOn at h
  obtain ⟨v1, e1, h⟩ := wb_v h
  rw [← e1] at hr ⊢
  generalize hA : M 0 v1.toNatClampNeg = a at *
  generalize hG : M 1 v1.toNatClampNeg = g at *
  generalize hW : M 2 v1.toNatClampNeg = w at *
  generalize hP : M 3 v1.toNatClampNeg = p at *
  obtain ⟨⟨a0, a1⟩, ⟨g0, g1⟩, ⟨w0, w1⟩, p0, p1⟩ := hr
  obtain ⟨-, h⟩ := wb_n h
  obtain ⟨v2, e2, h⟩ := wb_v h
  obtain ⟨-, h⟩ := wb_n h
  obtain ⟨r3, e3, h⟩ := wb_b h
  obtain ⟨r4, e4, h⟩ := wb_b h
  have h := Option.some.inj h
  obtain ⟨q, eq, q1, q2, q3, q4, q5, q6⟩ := sw_rg (d := d.toInt) w0 w1 p0 p1
  -- gone
  have gd0 : 0 ≤ g.toInt * d.toInt := Int.mul_nonneg g0 hd
  have gd1 : g.toInt * d.toInt ≤ 2000000 * 1000001 := Int.mul_le_mul g1 hd2 hd (by omega)
  have n1000 : (1000 : Int64).toInt = 1000 := by decide
  have m1 : (g.toInt64 * d.toInt64).toInt = g.toInt * d.toInt := by
    rw [la_mul _ _ (by rw [i64_of, i64_of]; omega) (by rw [i64_of, i64_of]; omega), i64_of, i64_of]
  have t2 : v2.toInt = g.toInt * d.toInt / 1000 := by
    rw [e2, (la_div _ 1000 (by rw [n1000]; omega) (by rw [m1]; omega) (by rw [m1]; omega)).1 (by rw [m1]; omega), m1, n1000]
  -- swing
  have t3 : r3.toInt = q * w.toInt / p.toInt := by
    unfold fX5_swingOn at e3
    obtain ⟨-, e3⟩ := wb_n e3
    obtain ⟨u1, f1, e3⟩ := wb_v e3
    obtain ⟨-, e3⟩ := wb_n e3
    rw [hP] at f1
    rw [hW] at e3
    subst f1
    rcases ifr e3 with ⟨c, e3⟩ | ⟨c, e3⟩
    · have e3 := Option.some.inj e3
      rw [← e3, c, z64, show (0 : Int32).toInt = 0 from by decide, Int.mul_zero, Int.zero_ediv]
    · have e3 := wb_t ((le32 (by decide : (1 : Int32).toInt = 1) rfl).mpr p0) e3
      obtain ⟨-, e3⟩ := wb_n e3
      obtain ⟨u2, f2, e3⟩ := wb_v e3
      obtain ⟨u3, f3, e3⟩ := wb_v e3
      obtain ⟨-, e3⟩ := wb_n e3
      obtain ⟨u4, f4, e3⟩ := wb_b e3
      have e3 := Option.some.inj e3
      subst e3
      have tu2 : u2.toInt = d.toInt % u1.toInt := by rw [f2]; exact rem32 hd p0
      have r0 := Int.emod_nonneg d.toInt (by omega : u1.toInt ≠ 0)
      have r1 := Int.emod_lt_of_pos d.toInt (by omega : 0 < u1.toInt)
      have n2 : (2 : Int32).toInt = 2 := by decide
      have x1 := ia_mul 2 2 n2 u2 (by omega) (by omega)
      have x2 := ia_sub ((2 : Int32) * u2) u1 (by omega) (by omega)
      have n0 : (0 : Int32).toInt = 0 := by decide
      have x3 := ia_sub 0 ((2 : Int32) * u2 - u1) (by omega) (by omega)
      have tq : u3.toInt = q := by
        rw [f3, eq]
        have l2 : (2 : Int64).toInt = 2 := by decide
        by_cases z : 0 ≤ 2 * (d.toInt % u1.toInt) - u1.toInt
        · rw [if_pos z, if_pos ((le32 n0 x2).mpr (by omega))]
          rw [la_sub _ _ (by rw [la_mul _ _ (by rw [l2, i64_of]; omega) (by rw [l2, i64_of]; omega), l2, i64_of, i64_of]; omega) (by rw [la_mul _ _ (by rw [l2, i64_of]; omega) (by rw [l2, i64_of]; omega), l2, i64_of, i64_of]; omega), la_mul _ _ (by rw [l2, i64_of]; omega) (by rw [l2, i64_of]; omega), l2, i64_of, i64_of]
          omega
        · rw [if_neg z, if_neg (fun y => z (by have := (le32 n0 x2).mp y; omega))]
          rw [la_sub _ _ (by rw [la_mul _ _ (by rw [l2, i64_of]; omega) (by rw [l2, i64_of]; omega), l2, i64_of, i64_of]; omega) (by rw [la_mul _ _ (by rw [l2, i64_of]; omega) (by rw [l2, i64_of]; omega), l2, i64_of, i64_of]; omega), la_mul _ _ (by rw [l2, i64_of]; omega) (by rw [l2, i64_of]; omega), l2, i64_of, i64_of]
          omega
      have m3 : (u3 * w.toInt64).toInt = q * w.toInt := by
        rw [la_mul _ _ (by rw [tq, i64_of]; omega) (by rw [tq, i64_of]; omega), tq, i64_of]
      rw [fdv64 (by rw [i64_of]; omega) (by rw [i64_of]; omega) (by rw [m3]; omega) (by rw [m3]; omega) f4, m3, i64_of]
  have gn0 := Int.ediv_nonneg gd0 (by omega : (0 : Int) ≤ 1000)
  have gn1 := Int.ediv_le_self 1000 gd0
  have n21 : (21600 : Int64).toInt = 21600 := by decide
  have s1 := la_add a.toInt64 v2 (by rw [i64_of]; omega) (by rw [i64_of]; omega)
  rw [i64_of] at s1
  have s2 := la_add (a.toInt64 + v2) r3 (by omega) (by omega)
  have t4 := fmd64 (by rw [n21]; omega) (by rw [n21]; omega) (by omega) (by omega) e4
  rw [n21] at t4
  have b0 := Int.emod_nonneg ((a.toInt64 + v2 + r3).toInt) (by omega : (21600 : Int) ≠ 0)
  have b1 := Int.emod_lt_of_pos ((a.toInt64 + v2 + r3).toInt) (by omega : (0 : Int) < 21600)
  rw [← h, i32_of (by omega) (by omega), t4, s2, s1, t2, t3, eq]
  rfl
/-- the reference's PLACE -/
theorem pl12 {N : Nat} {J : Nat → Int32} {L : Int64} {K : Nat → Nat → Int32} {s k d r : Int32} (hd : 0 ≤ d.toInt) (hd2 : d.toInt ≤ 1000001) (hr : HRg (K 0 ((7 : Int32) * s + k).toNatClampNeg) (K 1 ((7 : Int32) * s + k).toNatClampNeg) (K 2 ((7 : Int32) * s + k).toNatClampNeg) (K 3 ((7 : Int32) * s + k).toNatClampNeg)) (h : fX12_placeOn N J L K s k d = some r) : r.toInt = plc (K 0 ((7 : Int32) * s + k).toNatClampNeg).toInt (K 1 ((7 : Int32) * s + k).toNatClampNeg).toInt (K 2 ((7 : Int32) * s + k).toNatClampNeg).toInt (K 3 ((7 : Int32) * s + k).toNatClampNeg).toInt d.toInt := by
  unfold fX12_placeOn at h
  obtain ⟨v4, e4, h⟩ := wb_v h
  rw [← e4] at hr ⊢
  obtain ⟨-, h⟩ := wb_n h
  obtain ⟨-, h⟩ := wb_n h
  obtain ⟨v5, e5, h⟩ := wb_v h
  obtain ⟨-, h⟩ := wb_n h
  obtain ⟨v6, e6, h⟩ := wb_v h
  obtain ⟨-, h⟩ := wb_n h
  obtain ⟨-, h⟩ := wb_n h
  obtain ⟨⟨a0, a1⟩, ⟨g0, g1⟩, ⟨w0, w1⟩, p0, p1⟩ := hr
  obtain ⟨q, eq, q1, q2, q3, q4, q5, q6⟩ := sw_rg (d := d.toInt) w0 w1 p0 p1
  have r0 := Int.emod_nonneg d.toInt (by omega : (K 3 v4.toNatClampNeg).toInt ≠ 0)
  have r1 := Int.emod_lt_of_pos d.toInt (by omega : 0 < (K 3 v4.toNatClampNeg).toInt)
  have l2 : (2 : Int64).toInt = 2 := by decide
  have t5 : v5.toInt = d.toInt % (K 3 v4.toNatClampNeg).toInt := by
    rw [e5, i64_of]; exact rem32 hd p0
  have t6 : v6.toInt = 2 * (d.toInt % (K 3 v4.toNatClampNeg).toInt) - (K 3 v4.toNatClampNeg).toInt := by
    have x := la_mul 2 v5 (by rw [l2]; omega) (by rw [l2]; omega)
    rw [e6, la_sub _ _ (by rw [x, l2, i64_of]; omega) (by rw [x, l2, i64_of]; omega), x, l2, i64_of, t5]
  have gd0 : 0 ≤ (K 1 v4.toNatClampNeg).toInt * d.toInt := Int.mul_nonneg g0 hd
  have gd1 : (K 1 v4.toNatClampNeg).toInt * d.toInt ≤ 2000000 * 1000001 := Int.mul_le_mul g1 hd2 hd (by omega)
  have n1000 : (1000 : Int64).toInt = 1000 := by decide
  have m1 : ((K 1 v4.toNatClampNeg).toInt64 * d.toInt64).toInt = (K 1 v4.toNatClampNeg).toInt * d.toInt := by
    rw [la_mul _ _ (by rw [i64_of, i64_of]; omega) (by rw [i64_of, i64_of]; omega), i64_of, i64_of]
  have t2 : ((K 1 v4.toNatClampNeg).toInt64 * d.toInt64 / 1000).toInt = (K 1 v4.toNatClampNeg).toInt * d.toInt / 1000 := by
    rw [(la_div _ 1000 (by rw [n1000]; omega) (by rw [m1]; omega) (by rw [m1]; omega)).1 (by rw [m1]; omega), m1, n1000]
  have gn0 := Int.ediv_nonneg gd0 (by omega : (0 : Int) ≤ 1000)
  have gn1 := Int.ediv_le_self 1000 gd0
  have s1 := la_add (K 0 v4.toNatClampNeg).toInt64 ((K 1 v4.toNatClampNeg).toInt64 * d.toInt64 / 1000) (by rw [i64_of]; omega) (by rw [i64_of]; omega)
  rw [i64_of, t2] at s1
  have key : ∀ z : Int64, z.toInt = (if 0 ≤ 2 * (d.toInt % (K 3 v4.toNatClampNeg).toInt) - (K 3 v4.toNatClampNeg).toInt then 2 * (d.toInt % (K 3 v4.toNatClampNeg).toInt) - (K 3 v4.toNatClampNeg).toInt else -(2 * (d.toInt % (K 3 v4.toNatClampNeg).toInt) - (K 3 v4.toNatClampNeg).toInt)) → fX12_placeOn_J79 N J L K s k d v4 z (2 : Int64) ((K 0 v4.toNatClampNeg).toInt64 + ((K 1 v4.toNatClampNeg).toInt64 * d.toInt64 / 1000)) = some r → r.toInt = plc (K 0 v4.toNatClampNeg).toInt (K 1 v4.toNatClampNeg).toInt (K 2 v4.toNatClampNeg).toInt (K 3 v4.toNatClampNeg).toInt d.toInt := by
    intro z ez h
    unfold fX12_placeOn_J79 at h
    obtain ⟨-, h⟩ := wb_n h
    obtain ⟨-, h⟩ := wb_n h
    obtain ⟨-, h⟩ := wb_n h
    obtain ⟨u1, f1, h⟩ := wb_b h
    obtain ⟨u2, f2, h⟩ := wb_v h
    obtain ⟨u3, f3, h⟩ := wb_v h
    rw [← ez] at eq
    have x1 := la_mul 2 z (by rw [l2]; omega) (by rw [l2]; omega)
    rw [l2] at x1
    have x2 := la_sub ((2 : Int64) * z) (K 3 v4.toNatClampNeg).toInt64 (by rw [i64_of]; omega) (by rw [i64_of]; omega)
    rw [i64_of] at x2
    have x3 := la_mul ((2 : Int64) * z - (K 3 v4.toNatClampNeg).toInt64) (K 2 v4.toNatClampNeg).toInt64 (by rw [x2, x1, i64_of, ← eq]; omega) (by rw [x2, x1, i64_of, ← eq]; omega)
    rw [x2, x1, i64_of, ← eq] at x3
    have t1 := flr64 (by rw [i64_of]; omega) (by rw [i64_of]; omega) (by rw [x3]; omega) (by rw [x3]; omega) f1
    rw [x3, i64_of] at t1
    have s2 := la_add ((K 0 v4.toNatClampNeg).toInt64 + ((K 1 v4.toNatClampNeg).toInt64 * d.toInt64 / 1000)) u1 (by rw [s1, t1]; omega) (by rw [s1, t1]; omega)
    rw [s1, t1, ← f2] at s2
    have n21 : (21600 : Int64).toInt = 21600 := by decide
    have n21' : (21600 : Int32).toInt = 21600 := by decide
    have rr := la_rem u2 21600 (by rw [n21]; omega) (by rw [n21]; omega) (by omega) (by omega)
    rw [n21] at rr
    have ep : plc (K 0 v4.toNatClampNeg).toInt (K 1 v4.toNatClampNeg).toInt (K 2 v4.toNatClampNeg).toInt (K 3 v4.toNatClampNeg).toInt d.toInt = u2.toInt % 21600 := by
      unfold plc
      rw [← ez, ← eq, s2]
    rw [ep]
    rcases Int.lt_or_le u2.toInt 0 with c | c
    · have nd := ndv c (by omega : (0 : Int) < 21600)
      have b0 := Int.emod_nonneg (-u2.toInt) (by omega : (21600 : Int) ≠ 0)
      have b1 := Int.emod_lt_of_pos (-u2.toInt) (by omega : (0 : Int) < 21600)
      have t3 : u3.toInt = -((-u2.toInt) % 21600) := by
        rw [f3, i32_of (by rw [rr.2 c]; omega) (by rw [rr.2 c]; omega), rr.2 c]
      rcases ifr h with ⟨c2, h⟩ | ⟨c2, h⟩
      · have c2 := (le32 (by decide : (0 : Int32).toInt = 0) rfl).mp c2
        have h := Option.some.inj h
        rw [← h, (nd.1 (by omega)).2]
        omega
      · have c2 : ¬ _ := fun y => c2 ((le32 (by decide : (0 : Int32).toInt = 0) rfl).mpr y)
        have h := Option.some.inj h
        rw [← h, ia_add _ _ (by omega) (by omega), n21', (nd.2 (by omega)).2]
        omega
    · have b0 := Int.emod_nonneg u2.toInt (by omega : (21600 : Int) ≠ 0)
      have b1 := Int.emod_lt_of_pos u2.toInt (by omega : (0 : Int) < 21600)
      have t3 : u3.toInt = u2.toInt % 21600 := by
        rw [f3, i32_of (by rw [rr.1 c]; omega) (by rw [rr.1 c]; omega), rr.1 c]
      have h := wb_t ((le32 (by decide : (0 : Int32).toInt = 0) rfl).mpr (by omega)) h
      have h := Option.some.inj h
      rw [← h]; exact t3
  rcases ifr h with ⟨c, h⟩ | ⟨c, h⟩
  · have c := lgc_ge.mp c
    rw [z64, t6] at c
    exact key v6 (by rw [if_pos c, t6]) h
  · have c : ¬ 0 ≤ 2 * (d.toInt % (K 3 v4.toNatClampNeg).toInt) - (K 3 v4.toNatClampNeg).toInt := fun z => c (lgc_ge.mpr (by rw [z64, t6]; exact z))
    refine key (-v6) ?_ h
    rw [if_neg c, Int64.toInt_neg, t6]
    exact Int.bmod_eq_of_le (by omega) (by omega)
/-- PLACES alike -/
theorem pl_eq {N N2 : Nat} {I J I' : Nat → Int32} {L : Int64} {M K : Nat → Nat → Int32} {s k d a b : Int32} (ht : HT I M J K) (hs : 0 ≤ s.toInt ∧ s.toInt ≤ 3) (hk : 0 ≤ k.toInt ∧ k.toInt ≤ 6) (hd : 0 ≤ d.toInt ∧ d.toInt ≤ 1000001) (h : fX5_placeOn N I' (wb_sh M 1) s k d = some a) (g : fX12_placeOn N2 J L K s k d = some b) : a = b ∧ 0 ≤ a.toInt ∧ a.toInt < 21600 := by
  have n7 : (7 : Int32).toInt = 7 := by decide
  have x1 := ia_mul 7 7 n7 s (by omega) (by omega)
  have x2 := ia_add ((7 : Int32) * s) k (by omega) (by omega)
  have hi : ((7 : Int32) * s + k).toNatClampNeg < 28 := by rw [cl32]; omega
  obtain ⟨⟨b1, b2, b3, b4⟩, br⟩ := ht.2.2.2.2.1 _ hi
  have e1 := pl11 (M := wb_sh M 1) hd.1 hd.2 (by
    show HRg (M 1 _) (M 2 _) (M 3 _) (M 4 _)
    rw [b1, b2, b3, b4]; exact br) h
  have e2 := pl12 hd.1 hd.2 br g
  have e3 : a.toInt = b.toInt := by
    rw [e1, e2]
    show plc (M 1 _).toInt (M 2 _).toInt (M 3 _).toInt (M 4 _).toInt _ = _
    rw [b1, b2, b3, b4]
  refine ⟨t32 e3, ?_⟩
  rw [e1]
  unfold plc
  exact ⟨Int.emod_nonneg _ (by omega), Int.emod_lt_of_pos _ (by omega)⟩
/-! HANDS and COSTS of both -/
theorem bit1 {x : Int32} {b : Nat} (hb : b < 32) : ((x >>> (nI b &&& 31)) &&& 1) = 1 ↔ bt x b = true := by
  have h1 : ∀ i, i < 32 → (bt 1 i = true ↔ i = 0) := by decide +kernel
  have e0 : bt ((x >>> (nI b &&& 31)) &&& 1) 0 = bt x b := by
    rw [b_and, b_sshr b hb x (by omega), if_pos (by omega), (h1 0 (by omega)).mpr rfl, Bool.and_true, Nat.add_zero]
  constructor
  · intro h
    rw [← e0, h]
    exact (h1 0 (by omega)).mpr rfl
  · intro h
    apply b_ext
    intro i hi
    by_cases hi0 : i = 0
    · subst hi0
      rw [e0, h, (h1 0 (by omega)).mpr rfl]
    · have h2 : bt 1 i = false := by
        cases hb1 : bt 1 i with
        | false => rfl
        | true => exact absurd ((h1 i hi).mp hb1) hi0
      rw [b_and, h2, Bool.and_false]
theorem nI_self {x : Int32} (h : 0 ≤ x.toInt) : x = nI x.toInt.toNat := by
  apply t32
  have := Int32.toInt_lt x
  rw [nI_toInt (by omega)]
  omega
theorem isr {N : Nat} {I : Nat → Int32} {M : Nat → Nat → Int32} {a b r : Int32} (ha : 0 ≤ a.toInt) (hb : 0 ≤ b.toInt ∧ b.toInt < 30) (h : fX4_isRead N I M a b = some r) : (r = 1 ∧ bt (M 0 a.toInt.toNat) b.toInt.toNat = true) ∨ (r = 0 ∧ ¬ bt (M 0 a.toInt.toNat) b.toInt.toNat = true) := by
  unfold fX4_isRead at h
  obtain ⟨-, h⟩ := wb_n h
  have e : b = nI b.toInt.toNat := nI_self hb.1
  rcases ifr h with ⟨c, h⟩ | ⟨c, h⟩
  · left
    rw [e] at c
    exact ⟨(Option.some.inj h).symm, (bit1 (by omega)).mp c⟩
  · right
    refine ⟨(Option.some.inj h).symm, fun z => c ?_⟩
    rw [e]
    exact (bit1 (by omega)).mpr z
theorem ish_l {N : Nat} {J : Nat → Int32} {L : Int64} {K : Nat → Nat → Int32} {a b : Int32} (h0 : 0 ≤ (J 2).toInt) : ∀ (fu y : Nat) (v r : Int32), fX12_isHand_L5 N J L K a b fu v (nI y) = some r → (y : Int) ≤ (J 2).toInt → (v = 0 ∨ v = 1) → (r = 1 ∧ (v = 1 ∨ ∃ k : Nat, y ≤ k ∧ (k : Int) < (J 2).toInt ∧ K 6 k = a ∧ K 5 k = b)) ∨ (r = 0 ∧ v = 0 ∧ ¬ ∃ k : Nat, y ≤ k ∧ (k : Int) < (J 2).toInt ∧ K 6 k = a ∧ K 5 k = b) := by
  have hlt := Int32.toInt_lt (J 2)
  intro fu
  induction fu with
  | zero => intro y v r h; cases (show none = some r from h)
  | succ fu ih =>
    intro y v r h hy hv
    rw [fX12_isHand_L5.eq_2] at h
    have ty : (nI y).toInt = (y : Int) := nI_toInt (by omega)
    rcases ifr h with ⟨c, h⟩ | ⟨c, h⟩
    · have c := (le32 rfl ty).mp c
      have h := Option.some.inj (wb_y h).2
      subst h
      rcases hv with hv | hv
      · right
        refine ⟨hv, hv, ?_⟩
        rintro ⟨k, k1, k2, -⟩
        omega
      · exact Or.inl ⟨hv, Or.inl hv⟩
    · have c : ¬ _ := fun z => c ((le32 rfl ty).mpr z)
      have hy2 : ((y + 1 : Nat) : Int) ≤ (J 2).toInt := by omega
      have cy : (nI y).toNatClampNeg = y := nI_clamp (by omega)
      rcases hv with hv | hv
      · have h := wb_t hv h
        obtain ⟨-, h⟩ := wb_n h
        rw [cy] at h
        have nomt : ∀ v2 : Int32, v2 = nI y + 1 → ¬ (K 6 y = a ∧ K 5 y = b) → fX12_isHand_L5 N J L K a b fu 0 v2 = some r → (r = 1 ∧ (v = 1 ∨ ∃ k : Nat, y ≤ k ∧ (k : Int) < (J 2).toInt ∧ K 6 k = a ∧ K 5 k = b)) ∨ (r = 0 ∧ v = 0 ∧ ¬ ∃ k : Nat, y ≤ k ∧ (k : Int) < (J 2).toInt ∧ K 6 k = a ∧ K 5 k = b) := by
          intro v2 e2 hn h
          rw [e2, nI_1] at h
          rcases ih (y + 1) 0 r h hy2 (Or.inl rfl) with ⟨w1, w2⟩ | ⟨w1, -, w2⟩
          · left
            refine ⟨w1, Or.inr ?_⟩
            rcases w2 with w2 | ⟨k, k1, k2, k3, k4⟩
            · exact absurd w2 (by decide)
            · exact ⟨k, by omega, k2, k3, k4⟩
          · right
            refine ⟨w1, hv, ?_⟩
            rintro ⟨k, k1, k2, k3, k4⟩
            by_cases hk : k = y
            · subst hk; exact hn ⟨k3, k4⟩
            · exact w2 ⟨k, by omega, k2, k3, k4⟩
        rcases ifr h with ⟨d, h⟩ | ⟨d, h⟩
        · obtain ⟨-, h⟩ := wb_n h
          rcases ifr h with ⟨d2, h⟩ | ⟨d2, h⟩
          · obtain ⟨v4, e4, h⟩ := wb_v h
            rw [e4, nI_1] at h
            left
            rcases ih (y + 1) 1 r h hy2 (Or.inr rfl) with ⟨w1, -⟩ | ⟨-, w2, -⟩
            · exact ⟨w1, Or.inr ⟨y, Nat.le_refl _, by omega, d, d2⟩⟩
            · exact absurd w2 (by decide)
          · obtain ⟨v3, e3, h⟩ := wb_v h
            exact nomt v3 e3 (fun z => d2 z.2) h
        · obtain ⟨v2, e2, h⟩ := wb_v h
          exact nomt v2 e2 (fun z => d z.1) h
      · have h := wb_f (by rw [hv]; decide) h
        obtain ⟨v1, e1, h⟩ := wb_v h
        rw [e1, nI_1] at h
        left
        rcases ih (y + 1) 1 r h hy2 (Or.inr rfl) with ⟨w1, -⟩ | ⟨-, w2, -⟩
        · exact ⟨w1, Or.inl hv⟩
        · exact absurd w2 (by decide)
theorem hnd_eq {N N2 : Nat} {I I' J : Nat → Int32} {L : Int64} {M m K : Nat → Nat → Int32} {a b r s : Int32} (ht : HT I M J K) (hm : m 0 = M 6) (ha : 0 ≤ a.toInt ∧ a.toInt < 30) (hb : 0 ≤ b.toInt ∧ b.toInt < 30) (h : fX4_isRead N I' m a b = some r) (g : fX12_isHand N2 J L K a b = some s) : r = s := by
  obtain ⟨-, -, -, h2, -, -, hh⟩ := ht
  have e := hh a.toInt.toNat b.toInt.toNat (by omega) (by omega)
  have e2 : (∃ k : Nat, (k : Int) < (J 2).toInt ∧ (K 6 k).toInt = (a.toInt.toNat : Int) ∧ (K 5 k).toInt = (b.toInt.toNat : Int)) ↔ ∃ k : Nat, 0 ≤ k ∧ (k : Int) < (J 2).toInt ∧ K 6 k = a ∧ K 5 k = b := by
    constructor
    · rintro ⟨k, k1, k2, k3⟩
      exact ⟨k, Nat.zero_le _, k1, t32 (by omega), t32 (by omega)⟩
    · rintro ⟨k, -, k1, k2, k3⟩
      exact ⟨k, k1, by rw [k2]; omega, by rw [k3]; omega⟩
  rw [e2] at e
  unfold fX12_isHand at g
  rcases isr ha.1 hb h with ⟨w1, w2⟩ | ⟨w1, w2⟩
  · rw [hm] at w2
    rcases ish_l h2.1 N2 0 0 s g (by omega) (Or.inl rfl) with ⟨u1, -⟩ | ⟨-, -, u⟩
    · rw [w1, u1]
    · exact absurd (e.mp w2) u
  · rw [hm] at w2
    rcases ish_l h2.1 N2 0 0 s g (by omega) (Or.inl rfl) with ⟨-, u⟩ | ⟨u1, -, -⟩
    · rcases u with u | u
      · exact absurd u (by decide)
      · exact absurd (e.mpr u) w2
    · rw [w1, u1]
theorem dv30 {x : Int32} (h : 0 ≤ x.toInt) (h2 : x.toInt ≤ 389) : (0 ≤ (x / 30).toInt ∧ (x / 30).toInt < 30) ∧ (0 ≤ (x - x / 30 * 30).toInt ∧ (x - x / 30 * 30).toInt < 30) ∧ (x / 30).toInt = x.toInt / 30 ∧ (x - x / 30 * 30).toInt = x.toInt % 30 := by
  have n30 : (30 : Int32).toInt = 30 := by decide
  have a := ia_div x 30 30 n30 (by omega) h
  have b := ia_rem x 30 30 n30 (by omega) h
  omega
theorem mis_eq {N N2 : Nat} {I I' J : Nat → Int32} {L : Int64} {M m K : Nat → Nat → Int32} {x y r s : Int32} (ht : HT I M J K) (hm : m 0 = M 6) (hx : 0 ≤ x.toInt ∧ x.toInt ≤ 389) (hy : 0 ≤ y.toInt ∧ y.toInt ≤ 389) (h : fX4_misreading N I' m x y = some r) (g : fX12_beside N2 J L K x y = some s) : r = s ∧ (r = 0 ∨ r = 1 ∨ r = 2 ∨ r = 9) := by
  unfold fX4_misreading fX4_misreading_J70 at h
  unfold fX12_beside at g
  have dx := dv30 hx.1 hx.2
  have dy := dv30 hy.1 hy.2
  rcases ifr h with ⟨c, h⟩ | ⟨c, h⟩
  · have g := Option.some.inj (wb_t c g)
    have h := Option.some.inj h
    exact ⟨h.symm.trans g, Or.inl h.symm⟩
  · have g := wb_f c g
    rcases ifr h with ⟨c2, h⟩ | ⟨c2, h⟩
    · have g := wb_t c2 g
      obtain ⟨r2, e2, h⟩ := wb_b h
      obtain ⟨s2, f2, g⟩ := wb_b g
      have e := hnd_eq ht hm dx.2.1 dy.2.1 e2 f2
      subst e
      rcases ifr h with ⟨c3, h⟩ | ⟨c3, h⟩
      · have g := Option.some.inj (wb_t c3 g)
        have h := Option.some.inj h
        exact ⟨h.symm.trans g, Or.inr (Or.inr (Or.inr h.symm))⟩
      · have g := Option.some.inj (wb_f c3 g)
        have h := Option.some.inj h
        exact ⟨h.symm.trans g, Or.inr (Or.inl h.symm)⟩
    · have g := wb_f c2 g
      rcases ifr h with ⟨c3, h⟩ | ⟨c3, h⟩
      · have g := wb_t c3 g
        obtain ⟨r2, e2, h⟩ := wb_b h
        obtain ⟨s2, f2, g⟩ := wb_b g
        have e := hnd_eq ht hm dx.1 dy.1 e2 f2
        subst e
        rcases ifr h with ⟨c4, h⟩ | ⟨c4, h⟩
        · have g := Option.some.inj (wb_t c4 g)
          have h := Option.some.inj h
          exact ⟨h.symm.trans g, Or.inr (Or.inr (Or.inr h.symm))⟩
        · have g := Option.some.inj (wb_f c4 g)
          have h := Option.some.inj h
          exact ⟨h.symm.trans g, Or.inr (Or.inr (Or.inl h.symm))⟩
      · have g := Option.some.inj (wb_f c3 g)
        have h := Option.some.inj h
        exact ⟨h.symm.trans g, Or.inr (Or.inr (Or.inr h.symm))⟩
theorem cst_eq {N N2 : Nat} {I I' J : Nat → Int32} {L : Int64} {M m K : Nat → Nat → Int32} {x y r s : Int32} (ht : HT I M J K) (hm : m 0 = M 6) (hx : 0 ≤ x.toInt ∧ x.toInt ≤ 389) (hy : 0 ≤ y.toInt ∧ y.toInt ≤ 389) (h : fX4_costBeside N I' m x y = some r) (g : fX12_costOf N2 J L K x y = some s) : r = s ∧ 0 ≤ r.toInt ∧ r.toInt ≤ 9 := by
  unfold fX4_costBeside at h
  unfold fX12_costOf at g
  obtain ⟨r1, e1, h⟩ := wb_b h
  obtain ⟨s1, f1, g⟩ := wb_b g
  obtain ⟨e, k⟩ := mis_eq ht hm hx hy e1 f1
  subst e
  rcases ifr h with ⟨c, h⟩ | ⟨c, h⟩
  · have g := Option.some.inj (wb_t c g)
    have h := Option.some.inj h
    refine ⟨h.symm.trans g, ?_⟩
    rw [← h]; decide
  · have g := Option.some.inj (wb_f c g)
    have h := Option.some.inj h
    refine ⟨h.symm.trans g, ?_⟩
    rw [← h]
    rcases k with k | k | k | k <;> rw [k] <;> decide
/-- bounds that cut a COST alike -/
def BN (a b : Int32) : Prop := a = b ∨ (93 ≤ a.toInt ∧ 93 ≤ b.toInt)
theorem BN.lt {a b c : Int32} (h : BN a b) (hc : c.toInt ≤ 93) : a < c ↔ b < c := by
  rcases h with h | ⟨h1, h2⟩
  · rw [h]
  · constructor
    · intro z
      have := (lt32 rfl rfl).mp z
      omega
    · intro z
      have := (lt32 rfl rfl).mp z
      omega
theorem dv60 {x : Int32} (h : 0 ≤ x.toInt) (h2 : x.toInt < 21600) : 0 ≤ (x / 60).toInt ∧ (x / 60).toInt ≤ 359 := by
  have n60 : (60 : Int32).toInt = 60 := by decide
  have a := ia_div x 60 60 n60 (by omega) h
  omega
theorem cl_eq {N N2 : Nat} {I I2 J : Nat → Int32} {L : Int64} {M K : Nat → Nat → Int32} {n s d e1 e2 : Int32} (ht : HT I M J K) (er : EnR M K) (rg : ∀ j : Nat, -1 ≤ (M 13 j).toInt ∧ (M 13 j).toInt ≤ 389) (hs : 0 ≤ s.toInt ∧ s.toInt ≤ 3) (hd : 0 ≤ d.toInt ∧ d.toInt ≤ 1000001) (hb : BN e1 e2) : ∀ (fu fv y : Nat) (c a b : Int32), fX3_costOn_L37 N (wb_sh I 9) (wb_sh M 1) I2 (wb_sh M 13) n s d e1 fu c (nI y) = some a → fX12_costOn_L37 N2 J L K n s d e2 fv c (nI y) = some b → y ≤ 7 → 0 ≤ c.toInt → c.toInt ≤ 30 + 9 * (y : Int) → a = b ∧ 0 ≤ a.toInt ∧ a.toInt ≤ 93 := by
  intro fu
  induction fu with
  | zero => intro fv y c a b h; cases (show none = some a from h)
  | succ fu ih =>
    intro fv y c a b h g hy h0 h1
    cases fv with
    | zero => cases (show none = some b from g)
    | succ fv =>
      rw [fX3_costOn_L37.eq_2] at h
      rw [fX12_costOn_L37.eq_2] at g
      have ty : (nI y).toInt = (y : Int) := nI_toInt (by omega)
      rcases ifr h with ⟨c1, h⟩ | ⟨c1, h⟩
      · have g := Option.some.inj (wb_t c1 g)
        have h := Option.some.inj h
        subst h
        exact ⟨g, h0, by omega⟩
      · have g := wb_f c1 g
        have c1 : ¬ _ := fun z => c1 ((le32 (by decide : (7 : Int32).toInt = 7) ty).mpr z)
        rcases ifr h with ⟨c2, h⟩ | ⟨c2, h⟩
        · have g := Option.some.inj (wb_t ((hb.lt (by omega)).mp c2) g)
          have h := Option.some.inj h
          subst h
          exact ⟨g, h0, by omega⟩
        · have g := wb_f (fun z => c2 ((hb.lt (by omega)).mpr z)) g
          obtain ⟨r1, f1, h⟩ := wb_b h
          obtain ⟨s1, g1, g⟩ := wb_b g
          have e := at_eq er f1 g1
          subst e
          have r1r : -1 ≤ r1.toInt ∧ r1.toInt ≤ 389 := by
            unfold fX1_degreeOf at f1
            obtain ⟨-, f1⟩ := wb_n f1
            rw [← Option.some.inj f1]
            exact rg _
          rcases ifr h with ⟨c3, h⟩ | ⟨c3, h⟩
          · have g := wb_t c3 g
            obtain ⟨v2, ev, h⟩ := wb_v h
            obtain ⟨u2, eu, g⟩ := wb_v g
            rw [ev, nI_1] at h
            rw [eu, nI_1] at g
            exact ih fv (y + 1) c a b h g (by omega) h0 (by omega)
          · have g := wb_f c3 g
            have r1n : 0 ≤ r1.toInt := by
              refine Int.not_lt.mp (fun z => c3 ?_)
              apply t32
              rw [show (-1 : Int32).toInt = -1 from by decide]
              omega
            obtain ⟨r3, f3, h⟩ := wb_b h
            obtain ⟨r4, f4, h⟩ := wb_b h
            obtain ⟨v5, ev5, h⟩ := wb_v h
            obtain ⟨v6, ev6, h⟩ := wb_v h
            obtain ⟨s3, g3, g⟩ := wb_b g
            obtain ⟨s4, g4, g⟩ := wb_b g
            obtain ⟨s5, g5, g⟩ := wb_b g
            obtain ⟨u6, eu6, g⟩ := wb_v g
            obtain ⟨u7, eu7, g⟩ := wb_v g
            have e3 : s3 = r1 := Option.some.inj (g3.symm.trans g1)
            rw [e3] at g5
            unfold fX5_degreeOn at f3
            obtain ⟨p, fp, f3⟩ := wb_b f3
            have f3 := Option.some.inj f3
            obtain ⟨ep, p0, p1⟩ := pl_eq ht hs (by rw [ty]; omega) hd fp g4
            rw [← ep] at g5
            have dp := dv60 p0 p1
            rw [← f3] at f4
            obtain ⟨e4, q0, q1⟩ := cst_eq ht rfl ⟨r1n, r1r.2⟩ ⟨dp.1, by omega⟩ f4 g5
            rw [ev6, nI_1, ev5] at h
            rw [eu7, nI_1, eu6, ← e4] at g
            have ea := ia_add c r4 (by omega) (by omega)
            exact ih fv (y + 1) (c + r4) a b h g (by omega) (by omega) (by omega)
/-- COSTS of a WHEEL on a DAY alike -/
theorem co_eq {N N2 : Nat} {I I2 J : Nat → Int32} {L : Int64} {M K : Nat → Nat → Int32} {n s d e1 e2 a b : Int32} (ht : HT I M J K) (er : EnR M K) (rg : ∀ j : Nat, -1 ≤ (M 13 j).toInt ∧ (M 13 j).toInt ≤ 389) (hs : 0 ≤ s.toInt ∧ s.toInt ≤ 3) (hd : 0 ≤ d.toInt ∧ d.toInt ≤ 1000001) (hb : BN e1 e2) (h : fX3_costOn N (wb_sh I 9) (wb_sh M 1) I2 (wb_sh M 13) n s d e1 = some a) (g : fX12_costOn N2 J L K n s d e2 = some b) : a = b ∧ 0 ≤ a.toInt ∧ a.toInt ≤ 93 := by
  unfold fX3_costOn fX3_costOn_J31 fX3_costOn_J32 at h
  unfold fX12_costOn fX12_costOn_J31 fX12_costOn_J32 at g
  obtain ⟨r7, f7, h⟩ := wb_b h
  obtain ⟨s8, g8, g⟩ := wb_b g
  have e := at_eq er f7 g8
  subst e
  rcases ifr h with ⟨c, h⟩ | ⟨c, h⟩
  · have g := wb_t c g
    exact cl_eq ht er rg hs hd hb N N2 0 0 a b h g (by omega) (by decide) (by decide)
  · have g := wb_f c g
    obtain ⟨s9, g9, g⟩ := wb_b g
    have e9 : s9 = r7 := Option.some.inj (g9.symm.trans g8)
    rw [e9] at g
    rcases ifr h with ⟨c2, h⟩ | ⟨c2, h⟩
    · have g := wb_t c2 g
      exact cl_eq ht er rg hs hd hb N N2 0 0 a b h g (by omega) (by decide) (by decide)
    · have g := wb_f c2 g
      exact cl_eq ht er rg hs hd hb N N2 0 30 a b h g (by omega) (by decide) (by decide)
/-! checks of arguments, class and reference -/
theorem wI_n (x a b : Int32) (la lb : Int) (ha : a.toInt = la) (hb : b.toInt = lb) : (wI x a b = 1 ∧ la ≤ x.toInt ∧ x.toInt ≤ lb) ∨ (wI x a b = 0 ∧ ¬ (la ≤ x.toInt ∧ x.toInt ≤ lb)) := by
  rw [← ha, ← hb]
  exact wI_c x a b
theorem ck_within {N : Nat} {x a b r : Int32} (la lb : Int) (ha : a.toInt = la) (hb : b.toInt = lb) (h : fX11_within N x a b = some r) : (r = 1 ∧ la ≤ x.toInt ∧ x.toInt ≤ lb) ∨ (r = 0 ∧ ¬ (la ≤ x.toInt ∧ x.toInt ≤ lb)) := by
  rw [wn11] at h
  rw [← Option.some.inj h]
  exact wI_n x a b la lb ha hb
theorem ck_within12 {N : Nat} {x a b r : Int32} (la lb : Int) (ha : a.toInt = la) (hb : b.toInt = lb) (h : fX12_within N x a b = some r) : (r = 1 ∧ la ≤ x.toInt ∧ x.toInt ≤ lb) ∨ (r = 0 ∧ ¬ (la ≤ x.toInt ∧ x.toInt ≤ lb)) := ck_within (N := N) la lb ha hb h
/-- a check of the reference: by a condition -/
def CK (P : Prop) (J : Nat → Int32) (L : Int64) (K : Nat → Nat → Int32) (S : Int32 × (Nat → Int32) × Int64 × (Nat → Nat → Int32)) : Prop := (P ∧ S = (1, J, L, K)) ∨ (¬ P ∧ S = (0, upd J 0 1, L, K))
/-- the relation does not see the reference's 'thrown' -/
theorem RR.j0 {I0 I1 : Nat → Int32} {M0 M1 : Nat → Nat → Int32} (h : RR I0 M0 I1 M1) (v : Int32) : RR I0 M0 (upd I1 0 v) M1 := h
/-! CLIMBS and their PLACES, of both -/
theorem psm_sm {f : Nat → Int32} {o : Nat} : ∀ n, psm f o n = sm f o n := by
  intro n
  induction n with
  | zero => rfl
  | succ n ih =>
    show psm f o n + (f (o + n)).toInt = sm f o n + (f (o + n)).toInt
    rw [ih]
/-- a told CLIMATE of both -/
def CL (m5 k4 : Nat → Int32) (c : Nat) : Prop := c < 7 ∧ (∀ s : Nat, s ≤ 12 → (m5 (13 * c + s)).toInt = psm k4 (12 * c) s) ∧ (∀ z : Nat, z < 12 → 1 ≤ (k4 (12 * c + z)).toInt ∧ (k4 (12 * c + z)).toInt ≤ 3600) ∧ psm k4 (12 * c) 12 = 3600
theorem CL.of {I J : Nat → Int32} {M K : Nat → Nat → Int32} (ht : HT I M J K) (k1 : RS (J 1) (K 4)) {c : Nat} (hc : (c : Int) < (J 1).toInt) : CL (M 5) (K 4) c := by
  obtain ⟨h1, h2, h3, h4, h5, h6, h7⟩ := ht
  have rv := k1 c hc
  exact ⟨by omega, h6.2 c hc, rv.1, by rw [psm_sm]; exact rv.2⟩
theorem CL.mono {m5 k4 : Nat → Int32} {c : Nat} (h : CL m5 k4 c) : ∀ d s : Nat, s + d ≤ 12 → psm k4 (12 * c) s + (d : Int) ≤ psm k4 (12 * c) (s + d) := by
  intro d
  induction d with
  | zero => intro s hs; simp
  | succ d ih =>
    intro s hs
    have a := ih s (by omega)
    have b := (h.2.2.1 (s + d) (by omega)).1
    show _ ≤ psm k4 (12 * c) (s + d) + (k4 (12 * c + (s + d))).toInt
    omega
theorem CL.rg {m5 k4 : Nat → Int32} {c : Nat} (h : CL m5 k4 c) {s : Nat} (hs : s ≤ 12) : (s : Int) ≤ psm k4 (12 * c) s ∧ psm k4 (12 * c) s ≤ 3600 - (12 - (s : Int)) := by
  have a := h.mono s 0 (by omega)
  have b := h.mono (12 - s) s (by omega)
  rw [Nat.zero_add] at a
  rw [show s + (12 - s) = 12 by omega, h.2.2.2] at b
  have z : psm k4 (12 * c) 0 = 0 := rfl
  omega
theorem i13 {x : Int32} {c s : Nat} (hx : x.toInt = (c : Int)) (hc : c < 7) {y : Int32} (hy : y.toInt = (s : Int)) (hs : s ≤ 13) : ((13 : Int32) * x + y).toInt = ((13 * c + s : Nat) : Int) ∧ ((13 : Int32) * x + y).toNatClampNeg = 13 * c + s ∧ ((13 : Int32) * x + y + 1).toNatClampNeg = 13 * c + (s + 1) := by
  have n13 : (13 : Int32).toInt = 13 := by decide
  have n1 : (1 : Int32).toInt = 1 := by decide
  have x1 := ia_mul 13 13 n13 x (by omega) (by omega)
  have x2 := ia_add ((13 : Int32) * x) y (by omega) (by omega)
  have x3 := ia_add ((13 : Int32) * x + y) 1 (by omega) (by omega)
  rw [cl32, cl32]
  omega
theorem i12 {x : Int32} {c s : Nat} (hx : x.toInt = (c : Int)) (hc : c < 7) {y : Int32} (hy : y.toInt = (s : Int)) (hs : s ≤ 13) : ((12 : Int32) * x + y).toNatClampNeg = 12 * c + s := by
  have n12 : (12 : Int32).toInt = 12 := by decide
  have x1 := ia_mul 12 12 n12 x (by omega) (by omega)
  have x2 := ia_add ((12 : Int32) * x) y (by omega) (by omega)
  rw [cl32]
  omega
theorem q1800 {p : Int32} (hp : 0 ≤ p.toInt ∧ p.toInt ≤ 21599) : ∃ q : Nat, q ≤ 11 ∧ (p / 1800).toInt = (q : Int) ∧ (p - p / 1800 * 1800).toInt = p.toInt % 1800 ∧ p.toInt / 1800 = (q : Int) := by
  have n : (1800 : Int32).toInt = 1800 := by decide
  have a := ia_div p 1800 1800 n (by omega) hp.1
  have b := ia_rem p 1800 1800 n (by omega) hp.1
  exact ⟨(p.toInt / 1800).toNat, by omega, by omega, b, by omega⟩
theorem cb11 {N : Nat} {I : Nat → Int32} {m : Nat → Nat → Int32} {k4 : Nat → Int32} {x p r : Int32} {c : Nat} (h : CL (m 0) k4 c) (hx : x.toInt = (c : Int)) (hp : 0 ≤ p.toInt ∧ p.toInt ≤ 21599) (g : fX2_climbOf N I m x p = some r) : r.toInt = 1800 * psm k4 (12 * c) (p.toInt / 1800).toNat + (k4 (12 * c + (p.toInt / 1800).toNat)).toInt * (p.toInt % 1800) := by
  obtain ⟨q, hq, e1, e2, e3⟩ := q1800 hp
  have eq : (p.toInt / 1800).toNat = q := by omega
  unfold fX2_climbOf at g
  obtain ⟨v1, f1, g⟩ := wb_v g
  have ev1 : v1.toInt = (q : Int) := by rw [f1]; exact e1
  obtain ⟨-, g⟩ := wb_n g
  obtain ⟨v2, f2, g⟩ := wb_v g
  obtain ⟨-, g⟩ := wb_n g
  obtain ⟨v3, f3, g⟩ := wb_v g
  have g := Option.some.inj g
  have ii := i13 hx h.1 ev1 (by omega)
  rw [ii.2.1] at f2
  rw [ii.2.2] at f3
  have t2 := h.2.1 q (by omega)
  have t3 := h.2.1 (q + 1) (by omega)
  have t4 : psm k4 (12 * c) (q + 1) = psm k4 (12 * c) q + (k4 (12 * c + q)).toInt := rfl
  have r1 := h.rg (s := q) (by omega)
  have r2 := h.rg (s := q + 1) (by omega)
  have r3 := h.2.2.1 q (by omega)
  rw [← f2] at t2
  have d := ia_sub (m 0 (13 * c + (q + 1))) v2 (by omega) (by omega)
  rw [← f3] at d
  have tv3 : v3.toInt = (k4 (12 * c + q)).toInt := by omega
  have n18 : (1800 : Int32).toInt = 1800 := by decide
  have m1 := ia_mul 1800 1800 n18 v2 (by omega) (by omega)
  have pr0 : 0 ≤ v3.toInt * (p.toInt % 1800) := Int.mul_nonneg (by omega) (by omega)
  have pr1 : v3.toInt * (p.toInt % 1800) ≤ 3600 * 1799 := Int.mul_le_mul (by omega) (by omega) (by omega) (by omega)
  have m2 : (v3 * (p - p / 1800 * 1800)).toInt = v3.toInt * (p.toInt % 1800) := by
    rw [Int32.toInt_mul, e2]
    exact Int.bmod_eq_of_le (by omega) (by omega)
  have s1 := ia_add ((1800 : Int32) * v2) (v3 * (p - p / 1800 * 1800)) (by omega) (by omega)
  rw [← g, s1, m1, m2, tv3, t2, eq]
theorem cb_rg {m5 k4 : Nat → Int32} {c : Nat} (h : CL m5 k4 c) {p : Int} (hp : 0 ≤ p ∧ p ≤ 21599) : 0 ≤ 1800 * psm k4 (12 * c) (p / 1800).toNat + (k4 (12 * c + (p / 1800).toNat)).toInt * (p % 1800) ∧ 1800 * psm k4 (12 * c) (p / 1800).toNat + (k4 (12 * c + (p / 1800).toNat)).toInt * (p % 1800) < 6480000 := by
  generalize hq : (p / 1800).toNat = q
  have hq1 : q ≤ 11 := by omega
  have r1 := h.rg (s := q) (by omega)
  have r2 := h.rg (s := q + 1) (by omega)
  have t4 : psm k4 (12 * c) (q + 1) = psm k4 (12 * c) q + (k4 (12 * c + q)).toInt := rfl
  have r3 := h.2.2.1 q (by omega)
  have a : 0 ≤ (k4 (12 * c + q)).toInt * (p % 1800) := Int.mul_nonneg (by omega) (by omega)
  have b : (k4 (12 * c + q)).toInt * (p % 1800) ≤ (k4 (12 * c + q)).toInt * 1799 := Int.mul_le_mul_of_nonneg_left (by omega) (by omega)
  omega
theorem cb12_l {N : Nat} {J : Nat → Int32} {L : Int64} {K : Nat → Nat → Int32} {m5 : Nat → Int32} {x p : Int32} {c : Nat} (h : CL m5 (K 4) c) (hx : x.toInt = (c : Int)) (hp : 0 ≤ p.toInt ∧ p.toInt ≤ 21599) : ∀ (fu y : Nat) (v r : Int32), fX12_climbOf_L5 N J L K x p fu v (nI y) = some r → y ≤ (p.toInt / 1800).toNat → v.toInt = 1800 * psm (K 4) (12 * c) y → r.toInt = 1800 * psm (K 4) (12 * c) (p.toInt / 1800).toNat + (K 4 (12 * c + (p.toInt / 1800).toNat)).toInt * (p.toInt % 1800) := by
  obtain ⟨q, hq, e1, e2, e3⟩ := q1800 hp
  have eq : (p.toInt / 1800).toNat = q := by omega
  rw [eq]
  have rr := cb_rg h hp
  rw [eq] at rr
  intro fu
  induction fu with
  | zero => intro y v r g; cases (show none = some r from g)
  | succ fu ih =>
    intro y v r g hy hv
    rw [fX12_climbOf_L5.eq_2] at g
    have ty : (nI y).toInt = (y : Int) := nI_toInt (by omega)
    have r1 := h.rg (s := y) (by omega)
    rcases ifr g with ⟨d, g⟩ | ⟨d, g⟩
    · have d := (le32 e1 ty).mp d
      have yq : y = q := by omega
      obtain ⟨-, g⟩ := wb_n g
      have g := Option.some.inj g
      rw [i12 hx h.1 e1 (by omega)] at g
      have r3 := h.2.2.1 q (by omega)
      have pr0 : 0 ≤ (K 4 (12 * c + q)).toInt * (p.toInt % 1800) := Int.mul_nonneg (by omega) (by omega)
      have pr1 : (K 4 (12 * c + q)).toInt * (p.toInt % 1800) ≤ 3600 * 1799 := Int.mul_le_mul (by omega) (by omega) (by omega) (by omega)
      have m2 : (K 4 (12 * c + q) * (p - p / 1800 * 1800)).toInt = (K 4 (12 * c + q)).toInt * (p.toInt % 1800) := by
        rw [Int32.toInt_mul, e2]
        exact Int.bmod_eq_of_le (by omega) (by omega)
      rw [yq] at hv
      have s1 := ia_add v (K 4 (12 * c + q) * (p - p / 1800 * 1800)) (by omega) (by omega)
      rw [← g, s1, m2, hv]
    · have d : ¬ _ := fun z => d ((le32 e1 ty).mpr z)
      obtain ⟨-, g⟩ := wb_n g
      obtain ⟨v1, f1, g⟩ := wb_v g
      obtain ⟨v2, f2, g⟩ := wb_v g
      rw [i12 hx h.1 ty (by omega)] at f1
      rw [f2, nI_1] at g
      have r3 := h.2.2.1 y (by omega)
      have n18 : (1800 : Int32).toInt = 1800 := by decide
      have m1 := ia_mul 1800 1800 n18 (K 4 (12 * c + y)) (by omega) (by omega)
      have s1 := ia_add v ((1800 : Int32) * K 4 (12 * c + y)) (by omega) (by omega)
      refine ih (y + 1) v1 r g (by omega) ?_
      rw [f1, s1, m1, hv]
      show _ = 1800 * (psm (K 4) (12 * c) y + (K 4 (12 * c + y)).toInt)
      omega
/-- CLIMBS alike -/
theorem cb_eq {N N2 : Nat} {I J : Nat → Int32} {L : Int64} {m K : Nat → Nat → Int32} {x p r s : Int32} {c : Nat} (h : CL (m 0) (K 4) c) (hx : x.toInt = (c : Int)) (hp : 0 ≤ p.toInt ∧ p.toInt ≤ 21599) (f : fX2_climbOf N I m x p = some r) (g : fX12_climbOf N2 J L K x p = some s) : r = s ∧ 0 ≤ r.toInt ∧ r.toInt < 6480000 := by
  have a := cb11 h hx hp f
  have b := cb12_l h hx hp N2 0 0 s g (Nat.zero_le _) (show (0 : Int32).toInt = 1800 * 0 by decide)
  have rr := cb_rg h hp
  exact ⟨t32 (by rw [a, b]), by rw [a]; exact rr.1, by rw [a]; exact rr.2⟩
theorem po_l {N N2 : Nat} {I J : Nat → Int32} {L : Int64} {m K : Nat → Nat → Int32} {x cl zz : Int32} {c : Nat} (h : CL (m 0) (K 4) c) (hx : x.toInt = (c : Int)) (hcl : cl.toInt < 6480000) : ∀ (fu fv s : Nat) (left a b : Int32), fX2_placeOf_L5 N I m x cl fu (nI s) (nI (s + 1)) = some a → fX12_placeOf_L5 N2 J L K x zz fv left (nI s) = some b → s ≤ 11 → left.toInt = cl.toInt - 1800 * psm (K 4) (12 * c) s → 0 ≤ left.toInt → a = b ∧ 0 ≤ a.toInt ∧ a.toInt < 21600 := by
  intro fu
  induction fu with
  | zero => intro fv s left a b f; cases (show none = some a from f)
  | succ fu ih =>
    intro fv s left a b f g hs hl h0
    cases fv with
    | zero => cases (show none = some b from g)
    | succ fv =>
      rw [fX2_placeOf_L5.eq_2] at f
      rw [fX12_placeOf_L5.eq_2] at g
      have ts : (nI s).toInt = (s : Int) := nI_toInt (by omega)
      have ts1 : (nI (s + 1)).toInt = ((s + 1 : Nat) : Int) := nI_toInt (by omega)
      have r1 := h.rg (s := s) (by omega)
      have r2 := h.rg (s := s + 1) (by omega)
      have r3 := h.2.2.1 s (by omega)
      have t4 : psm (K 4) (12 * c) (s + 1) = psm (K 4) (12 * c) s + (K 4 (12 * c + s)).toInt := rfl
      have n18 : (1800 : Int32).toInt = 1800 := by decide
      have m1 := ia_mul 1800 1800 n18 (K 4 (12 * c + s)) (by omega) (by omega)
      obtain ⟨-, g⟩ := wb_n g
      rw [i12 hx h.1 ts (by omega)] at g
      have fin : left.toInt < 1800 * (K 4 (12 * c + s)).toInt → fX2_placeOf_J41 N I m x cl (nI s) = some a → a = b ∧ 0 ≤ a.toInt ∧ a.toInt < 21600 := by
        intro hlt f
        have g := wb_t ((lt32 rfl m1).mpr hlt) g
        obtain ⟨-, g⟩ := wb_n g
        obtain ⟨-, g⟩ := wb_n g
        have g := Option.some.inj g
        unfold fX2_placeOf_J41 at f
        obtain ⟨-, f⟩ := wb_n f
        obtain ⟨v1, f1, f⟩ := wb_v f
        obtain ⟨-, f⟩ := wb_n f
        obtain ⟨v2, f2, f⟩ := wb_v f
        have ii := i13 hx h.1 ts (by omega)
        rw [ii.2.1] at f1
        rw [ii.2.2] at f2
        have u1 := h.2.1 s (by omega)
        have u2 := h.2.1 (s + 1) (by omega)
        rw [← f1] at u1
        have d := ia_sub (m 0 (13 * c + (s + 1))) v1 (by omega) (by omega)
        rw [← f2] at d
        have e2 : v2 = K 4 (12 * c + s) := t32 (by omega)
        have f := wb_t ((le32 (by decide : (1 : Int32).toInt = 1) rfl).mpr (by rw [e2]; omega)) f
        obtain ⟨-, f⟩ := wb_n f
        have f := Option.some.inj f
        have m3 := ia_mul 1800 1800 n18 v1 (by omega) (by omega)
        have s3 := ia_sub cl ((1800 : Int32) * v1) (by omega) (by omega)
        have e3 : cl - (1800 : Int32) * v1 = left := t32 (by omega)
        rw [e3, e2] at f
        refine ⟨f.symm.trans g, ?_⟩
        have dv := ia_div left (K 4 (12 * c + s)) _ rfl (by omega) h0
        have d0 := Int.ediv_nonneg h0 (by omega : 0 ≤ (K 4 (12 * c + s)).toInt)
        have d1 : left.toInt / (K 4 (12 * c + s)).toInt < 1800 := Int.ediv_lt_of_lt_mul (by omega) (by omega)
        have m4 := ia_mul 1800 1800 n18 (nI s) (by omega) (by omega)
        have s4 := ia_add ((1800 : Int32) * nI s) (left / K 4 (12 * c + s)) (by omega) (by omega)
        rw [← f, s4, m4, dv, ts]
        omega
      rcases ifr f with ⟨d, f⟩ | ⟨d, f⟩
      · have d := (le32 (by decide : (12 : Int32).toInt = 12) ts1).mp d
        have s11 : s = 11 := by omega
        refine fin ?_ f
        have e12 := h.2.2.2
        rw [s11] at t4 hl ⊢
        have t4 : psm (K 4) (12 * c) 12 = psm (K 4) (12 * c) 11 + (K 4 (12 * c + 11)).toInt := t4
        omega
      · have d : ¬ _ := fun z => d ((le32 (by decide : (12 : Int32).toInt = 12) ts1).mpr z)
        obtain ⟨-, f⟩ := wb_n f
        rw [(i13 hx h.1 ts1 (by omega)).2.1] at f
        have u2 := h.2.1 (s + 1) (by omega)
        have m5 := ia_mul 1800 1800 n18 (m 0 (13 * c + (s + 1))) (by omega) (by omega)
        rcases ifr f with ⟨d2, f⟩ | ⟨d2, f⟩
        · have d2 := (lt32 rfl m5).mp d2
          exact fin (by omega) f
        · have d2 : ¬ _ := fun z => d2 ((lt32 rfl m5).mpr z)
          have g := wb_f (fun z => by
            have := (lt32 rfl m1).mp z
            omega) g
          obtain ⟨-, g⟩ := wb_n g
          obtain ⟨u, eu, g⟩ := wb_v g
          obtain ⟨w, ew, g⟩ := wb_v g
          rw [ew, nI_1] at g
          have s5 := ia_sub left ((1800 : Int32) * K 4 (12 * c + s)) (by omega) (by omega)
          obtain ⟨v3, ev3, f⟩ := wb_v f
          rw [ev3, nI_1] at f
          refine ih fv (s + 1) u a b f g (by omega) ?_ ?_
          · rw [eu, s5, m1]
            omega
          · rw [eu, s5, m1]
            omega
/-- PLACES of a CLIMB alike -/
theorem po_eq {N N2 : Nat} {I J : Nat → Int32} {L : Int64} {m K : Nat → Nat → Int32} {x cl a b : Int32} {c : Nat} (h : CL (m 0) (K 4) c) (hx : x.toInt = (c : Int)) (hcl : 0 ≤ cl.toInt ∧ cl.toInt < 6480000) (f : fX2_placeOf N I m x cl = some a) (g : fX12_placeOf N2 J L K x cl = some b) : a = b ∧ 0 ≤ a.toInt ∧ a.toInt < 21600 := by
  unfold fX2_placeOf at f
  unfold fX12_placeOf at g
  exact po_l h hx hcl.2 N N2 0 cl a b f g (by omega) (by show cl.toInt = cl.toInt - 1800 * 0; omega) hcl.1
theorem ri_eq {N N2 : Nat} {I J : Nat → Int32} {L : Int64} {m K : Nat → Nat → Int32} {x p t a b : Int32} {c : Nat} (h : CL (m 0) (K 4) c) (hx : x.toInt = (c : Int)) (hp : 0 ≤ p.toInt ∧ p.toInt ≤ 21599) (ht : 0 ≤ t.toInt ∧ t.toInt ≤ 359) (f : fX2_risingAt N I m x p t = some a) (g : fX12_riseOf N2 J L K x p t = some b) : a = b ∧ 0 ≤ a.toInt ∧ a.toInt < 21600 := by
  unfold fX2_risingAt at f
  unfold fX12_riseOf at g
  obtain ⟨r1, f1, f⟩ := wb_b f
  obtain ⟨s1, g1, g⟩ := wb_b g
  obtain ⟨e, b0, b1⟩ := cb_eq h hx hp f1 g1
  rw [← e] at g
  obtain ⟨r2, f2, f⟩ := wb_b f
  obtain ⟨s2, g2, g⟩ := wb_b g
  have f := Option.some.inj f
  have g := Option.some.inj g
  have n18 : (18000 : Int32).toInt = 18000 := by decide
  have m1 := ia_mul 18000 18000 n18 t (by omega) (by omega)
  have a1 := ia_add r1 ((18000 : Int32) * t) (by omega) (by omega)
  have rm := ia_rem (r1 + (18000 : Int32) * t) 6480000 6480000 (by decide) (by omega) (by omega)
  have h0 := Int.emod_nonneg (r1 + (18000 : Int32) * t).toInt (by omega : (6480000 : Int) ≠ 0)
  have h1 := Int.emod_lt_of_pos (r1 + (18000 : Int32) * t).toInt (by omega : (0 : Int) < 6480000)
  obtain ⟨e2, q⟩ := po_eq h hx ⟨by omega, by omega⟩ f2 g2
  rw [← f, ← g, e2]
  rw [e2] at q
  exact ⟨rfl, q⟩
theorem xs32 {x y : Int32} (hy : 0 ≤ y.toInt) : (0 ≤ (x ^^^ y).toInt) ↔ 0 ≤ x.toInt := by
  have m : ∀ z : Int32, z.toBitVec.msb = decide (z.toInt < 0) := fun z => BitVec.msb_eq_toInt
  have e : (x ^^^ y).toBitVec.msb = (x.toBitVec.msb ^^ y.toBitVec.msb) := by
    rw [Int32.toBitVec_xor, BitVec.msb_xor]
  rw [m, m, m, decide_eq_false (by omega : ¬ y.toInt < 0), Bool.xor_false] at e
  have e2 : ((x ^^^ y).toInt < 0) ↔ x.toInt < 0 := by
    have := congrArg (· = true) e
    simp only [decide_eq_true_eq] at this
    rw [this]
  omega
theorem fmd32 {N : Nat} {x y r : Int32} {k : Int} (hk : y.toInt = k) (hy : 0 < k) (h : fJ9_floorMod_7cf53 N x y = some r) : r.toInt = x.toInt % k := by
  unfold fJ9_floorMod_7cf53 at h
  obtain ⟨-, h⟩ := wb_n h
  obtain ⟨v, ev, h⟩ := wb_v h
  have n0 : (0 : Int32).toInt = 0 := by decide
  have ylt := Int32.toInt_lt y
  rcases Int.lt_or_le x.toInt 0 with c | c
  · have nd := ndv c hy
    have h3 := Int.emod_nonneg (-x.toInt) (by omega : k ≠ 0)
    have h4 := Int.emod_lt_of_pos (-x.toInt) hy
    have tv : v.toInt = -((-x.toInt) % k) := by
      have lo := Int32.le_toInt x
      have e : x.toInt.tdiv k = -((-x.toInt) / k) := by
        have e2 : x.toInt = -(-x.toInt) := by omega
        rw [e2, Int.neg_tdiv, Int.tdiv_eq_ediv_of_nonneg (by omega)]
        rw [← e2]
      have h5 : 0 ≤ (-x.toInt) / k := Int.ediv_nonneg (by omega) (by omega)
      have h6 : (-x.toInt) / k ≤ -x.toInt := Int.ediv_le_self _ (by omega)
      have hd : (x / y).toInt = -((-x.toInt) / k) := by
        rw [Int32.toInt_div, hk, e]
        exact Int.bmod_eq_of_le (by omega) (by omega)
      have h7 := Int.mul_ediv_add_emod (-x.toInt) k
      have h8 : -((-x.toInt) / k) * k = -(k * ((-x.toInt) / k)) := by rw [Int.neg_mul, Int.mul_comm]
      have h11 : 0 ≤ k * ((-x.toInt) / k) := Int.mul_nonneg (by omega) h5
      have hm : (x / y * y).toInt = -((-x.toInt) / k) * k := by
        rw [Int32.toInt_mul, hd, hk]
        exact Int.bmod_eq_of_le (by omega) (by omega)
      rw [ev, Int32.toInt_sub, hm]
      have e3 : (x.toInt - -((-x.toInt) / k) * k).bmod (2 ^ 32) = x.toInt - -((-x.toInt) / k) * k := Int.bmod_eq_of_le (by omega) (by omega)
      rw [e3]
      omega
    have h := wb_f (fun z => by
      have z := (le32 n0 rfl).mp z
      have z := (xs32 (y := y) (by omega)).mp z
      omega) h
    rcases ifr h with ⟨c2, h⟩ | ⟨c2, h⟩
    · have c2 := (eq32 rfl n0).mp c2
      have h := Option.some.inj h
      rw [← h, (nd.1 (by omega)).2]
      omega
    · have c2 : ¬ _ := fun z => c2 ((eq32 rfl n0).mpr z)
      have h := Option.some.inj h
      rw [← h, ia_add _ _ (by omega) (by omega), tv, hk, (nd.2 (by omega)).2]
      omega
  · have h := wb_t ((le32 n0 rfl).mpr ((xs32 (y := y) (by omega)).mpr c)) h
    have h := Option.some.inj h
    rw [← h, ev]
    exact ia_rem x y k hk hy c
/-! answers of both, from what the class's method and the reference's say -/
theorem fin_1n {x : Option (Nat ⊕ Int32)} {I : Nat → Int32} {M : Nat → Nat → Int32} {o : Nat → Int64} {r : Int32 × (Nat → Int32) × (Nat → Nat → Int32) × (Nat → Int64)} {j s : Int32} (h : wb_hp x (fun k => if k = 1 then some ((1 : Int32), I, M, o) else none) (fun r => (some (vp_updL o ((0 : Int32)).toNatClampNeg r.toInt64)).bind fun o1 => some ((0 : Int32), I, M, o1)) = some r) (key : ∀ q, x = some q → (q = .inl 1 ∧ j = 1) ∨ ∃ a, q = .inr a ∧ j = 0 ∧ a = s) : j = r.1 ∧ (r.1 = 0 → r.2.2.2 0 = s.toInt64) := by
  rcases fr_hp h with ⟨k, e, h⟩ | ⟨a, e, h⟩
  · obtain ⟨c, h⟩ := wb_y h
    have h := Option.some.inj h
    rcases key _ e with ⟨-, w⟩ | ⟨a, w, -⟩
    · rw [← h]
      exact ⟨w, fun z => absurd z (by show ¬ (1 : Int32) = 0; decide)⟩
    · cases w
  · obtain ⟨o1, eo, h⟩ := wb_v h
    have h := Option.some.inj h
    rcases key _ e with ⟨w, -⟩ | ⟨a2, w, w2, w3⟩
    · cases w
    · have w := Sum.inr.inj w
      rw [← h]
      refine ⟨w2, fun _ => ?_⟩
      show o1 0 = _
      rw [eo, ← w3, w]
      rfl
/-! counts of both -/
/-- a loop that adds: what it adds, as a sum -/
noncomputable def sm2 (d : Nat → Int32) : Nat → Int32
  | 0 => 0
  | n + 1 => sm2 d n + d n
theorem ad32 (a b c : Int32) : a + b + c = a + c + b := by rw [Int32.add_assoc, Int32.add_comm b c, ← Int32.add_assoc]
theorem ac32 {a b c : Int32} (h : a + c = b + c) : a = b := by
  have := congrArg (fun z => z + -c) h
  simp only [Int32.add_assoc, Int32.add_right_neg, Int32.add_zero] at this
  exact this
/-- from o to n by one: what comes of it -/
theorem lp_acc {α : Type} {F : Nat → Int32 → Int32 → Option α} {d : Nat → Int32} {n o : Nat} {Q : Int32 → α → Prop} (z : ∀ v i a, ¬ F 0 v i = some a) (e : ∀ fu v a, F (fu + 1) v (nI n) = some a → Q v a) (st : ∀ fu v k a, o ≤ k → k < n → F (fu + 1) v (nI k) = some a → F fu (v + d k) (nI (k + 1)) = some a) : ∀ fu v k a, o ≤ k → k ≤ n → F fu v (nI k) = some a → ∃ w, Q w a ∧ w + sm2 d k = v + sm2 d n := by
  intro fu
  induction fu with
  | zero => intro v k a h1 h2 h; exact absurd h (z _ _ _)
  | succ fu ih =>
    intro v k a h1 h2 h
    rcases Nat.lt_or_ge k n with c | c
    · obtain ⟨w, q, e2⟩ := ih (v + d k) (k + 1) a (by omega) c (st fu v k a h1 c h)
      refine ⟨w, q, ac32 (c := d k) ?_⟩
      have e2 : w + (sm2 d k + d k) = v + d k + sm2 d n := e2
      rw [Int32.add_assoc, e2, ad32]
    · have hk : k = n := by omega
      subst hk
      exact ⟨v, e fu v a h, rfl⟩
theorem z32 (x : Int32) : x + 0 = x := Int32.add_zero x
/-- the reference's second loop, with nothing to add -/
theorem c81n {N : Nat} {x : Int32} (h3 : ¬ x = 3) (h5 : ¬ x = 5) : ∀ (fv : Nat) (J : Nat → Int32) (L : Int64) (K : Nat → Nat → Int32) (v y : Int32) S, fX12_count_L81 N x fv J L K v y = some S → S = (if x = 4 then J 3 else v, J, L, K) := by
  intro fv
  induction fv with
  | zero => intro J L K v y S h; cases (show none = some S from h)
  | succ fv ih =>
    intro J L K v y S h
    rw [fX12_count_L81.eq_2] at h
    rcases ifr h with ⟨c, h⟩ | ⟨c, h⟩
    · rcases ifr h with ⟨c4, h⟩ | ⟨c4, h⟩
      · rw [if_pos c4]; exact (Option.some.inj h).symm
      · rw [if_neg c4]; exact (Option.some.inj h).symm
    · have h := wb_f h3 h
      unfold fX12_count_J103 at h
      have h := wb_f h5 h
      obtain ⟨v1, e1, h⟩ := wb_v h
      obtain ⟨v2, e2, h⟩ := wb_v h
      rw [e1, z32] at h
      exact ih J L K v v2 S h
/-- the outcomes told, of both -/
noncomputable def OR (M K : Nat → Nat → Int32) : Prop := ∀ j : Nat, j < 20 → M 28 j = K 32 j ∧ (-1 ≤ (M 28 j).toInt ∧ (M 28 j).toInt ≤ 120) ∧ (¬ M 28 j = -1 → M 29 j = K 33 j ∧ 0 ≤ (M 29 j).toInt ∧ (M 29 j).toInt ≤ 120) ∧ M 30 j = K 34 j ∧ -1 ≤ (M 30 j).toInt ∧ (M 30 j).toInt ≤ 12
/-! houses alike -/
theorem n360 : (360 : Int32).toInt = 360 := by decide
/-! hours alike -/
theorem hr_eq {N N2 : Nat} {I J : Nat → Int32} {L : Int64} {m K : Nat → Nat → Int32} {x t n sun rise a b : Int32} {c : Nat} (hc : CL (m 0) (K 4) c) (hx : x.toInt = (c : Int)) (ht : 0 ≤ t.toInt ∧ t.toInt ≤ 359) (hs : 0 ≤ sun.toInt ∧ sun.toInt ≤ 359) (g0 : fX12_at N2 J L K n 0 = some sun) (g7 : fX12_at N2 J L K n 7 = some rise) (f : fX2_isHour N I m x t sun rise = some a) (g : fX12_isHour N2 J L K n x t = some b) : a = b ∧ (a = 0 ∨ a = 1) := by
  have n60 : (60 : Int32).toInt = 60 := by decide
  have m60 := ia_mul 60 60 n60 sun (by omega) (by omega)
  unfold fX2_isHour at f
  unfold fX12_isHour at g
  obtain ⟨r1, f1, f⟩ := wb_b f
  obtain ⟨s0, d0, g⟩ := wb_b g
  obtain ⟨s1, d1, g⟩ := wb_b g
  obtain ⟨s7, d7, g⟩ := wb_b g
  have q0 : s0 = sun := Option.some.inj (d0.symm.trans g0)
  have q7 : s7 = rise := Option.some.inj (d7.symm.trans g7)
  rw [q0] at d1
  rw [q7] at g
  have e := (ri_eq hc hx ⟨by omega, by omega⟩ ht f1 d1).1
  rw [← e] at g
  rcases ifr f with ⟨k, f⟩ | ⟨k, f⟩
  · rw [← Option.some.inj f, ← Option.some.inj (wb_t k g)]
    exact ⟨rfl, Or.inr rfl⟩
  · rw [← Option.some.inj f, ← Option.some.inj (wb_f k g)]
    exact ⟨rfl, Or.inl rfl⟩
theorem cdv {y : Nat} (h : y < 2520) : ((nI y) / 360).toInt = ((y / 360 : Nat) : Int) ∧ (nI y - nI y / 360 * 360).toInt = ((y % 360 : Nat) : Int) := by
  have t : (nI y).toInt = (y : Int) := nI_toInt (by omega)
  have a := ia_div (nI y) 360 360 n360 (by omega) (by omega)
  have b := ia_rem (nI y) 360 360 n360 (by omega) (by omega)
  rw [t] at a b
  exact ⟨by omega, by omega⟩
/-- the hours that a WHEEL has, counted -/
theorem hh_l {N N2 : Nat} {I J : Nat → Int32} {L : Int64} {m K : Nat → Nat → Int32} {n sun rise x1 x2 : Int32} (hI : I 0 = J 1) (h7 : (J 1).toInt ≤ 7) (h70 : 0 ≤ (J 1).toInt) (hc : ∀ c : Nat, (c : Int) < (J 1).toInt → CL (m 0) (K 4) c) (hs : 0 ≤ sun.toInt ∧ sun.toInt ≤ 359) (g0 : fX12_at N2 J L K n 0 = some sun) (g7 : fX12_at N2 J L K n 7 = some rise) (j0 : J 0 = 0) : ∀ (fu fv y : Nat) (v a : Int32) S, fX2_howManyHours_L5 N I m sun rise fu v (nI y) = some a → fX12_hour_L67 N2 x1 x2 (-1) n 1 fv J L K v (nI y) = some S → 0 ≤ v.toInt → v.toInt ≤ (y : Int) → (y : Int) ≤ 360 * (J 1).toInt → S = (a, J, L, K) := by
  have m36 := ia_mul 360 360 n360 (J 1) (by omega) (by omega)
  intro fu
  induction fu with
  | zero => intro fv y v a S h; cases (show none = some a from h)
  | succ fu ih =>
    intro fv y v a S h g v0 v1 yb
    cases fv with
    | zero => cases (show none = some S from g)
    | succ fv =>
      rw [fX2_howManyHours_L5.eq_2, hI] at h
      rw [fX12_hour_L67.eq_2] at g
      have ty : (nI y).toInt = (y : Int) := nI_toInt (by omega)
      rcases ifr h with ⟨c, h⟩ | ⟨c, h⟩
      · have g := wb_t c g
        unfold fX12_hour_J127 at g
        have g := wb_t (c := (-1 : Int32) = -1) rfl g
        obtain ⟨r2, e2, g⟩ := wb_b g
        rcases rt12 j0 (by decide) e2 with ⟨-, q⟩ | ⟨q, -⟩
        · subst q
          have g := wb_f (c := (1 : Int32) = 0) (by decide) g
          rw [← Option.some.inj g, Option.some.inj h]
        · exact absurd q (by decide)
      · have g := wb_f c g
        have c : ¬ _ := fun z => c ((le32 m36 ty).mpr z)
        have g := wb_f (c := (1 : Int32) = 0) (by decide) g
        obtain ⟨r1, f1, h⟩ := wb_b h
        obtain ⟨s1, d1, g⟩ := wb_b g
        have yl : y < 2520 := by omega
        obtain ⟨p1, p2⟩ := cdv yl
        obtain ⟨e, e2⟩ := hr_eq (hc (y / 360) (by omega)) p1 ⟨by omega, by omega⟩ hs g0 g7 f1 d1
        rw [← e] at g
        rcases ifr h with ⟨c1, h⟩ | ⟨c1, h⟩
        · have g := wb_t c1 g
          obtain ⟨v1', e1, h⟩ := wb_v h
          obtain ⟨w1, d1, g⟩ := wb_v g
          rw [e1, nI_1] at h
          rw [d1, nI_1] at g
          exact ih fv (y + 1) v a S h g v0 (by omega) (by omega)
        · have g := wb_f c1 g
          have nv : ¬ v = -1 := by
            intro z
            rw [z, show (-1 : Int32).toInt = -1 from by decide] at v0
            omega
          have g := wb_f nv g
          obtain ⟨v1', e1, h⟩ := wb_v h
          obtain ⟨v2', e2, h⟩ := wb_v h
          obtain ⟨w1, d1, g⟩ := wb_v g
          obtain ⟨w2, d2, g⟩ := wb_v g
          rw [e1, e2, nI_1] at h
          rw [d1, d2, nI_1] at g
          have tv := ia_add v 1 (by rw [show (1 : Int32).toInt = 1 from by decide]; omega) (by rw [show (1 : Int32).toInt = 1 from by decide]; omega)
          rw [show (1 : Int32).toInt = 1 from by decide] at tv
          exact ih fv (y + 1) (v + 1) a S h g (by omega) (by omega) (by omega)
/-- the i-th of them -/
theorem hn_l {N N2 : Nat} {I J : Nat → Int32} {L : Int64} {m K : Nat → Nat → Int32} {n sun rise x1 x2 i xx : Int32} (hI : I 0 = J 1) (h7 : (J 1).toInt ≤ 7) (h70 : 0 ≤ (J 1).toInt) (hc : ∀ c : Nat, (c : Int) < (J 1).toInt → CL (m 0) (K 4) c) (hs : 0 ≤ sun.toInt ∧ sun.toInt ≤ 359) (g0 : fX12_at N2 J L K n 0 = some sun) (g7 : fX12_at N2 J L K n 7 = some rise) (j0 : J 0 = 0) (hi : 0 ≤ i.toInt) : ∀ (fu fv y : Nat) (l v a : Int32) S, fX2_nthHour_L6 N I m sun rise xx fu l (nI y) = some a → fX12_hour_L67 N2 x1 x2 i n 1 fv J L K v (nI y) = some S → 0 ≤ v.toInt → v.toInt ≤ (y : Int) → (y : Int) ≤ 360 * (J 1).toInt → 0 ≤ l.toInt → l.toInt = i.toInt - v.toInt → (a = -1 ∧ S.2.1 0 = 1) ∨ (0 ≤ a.toInt ∧ S = (a, J, L, K)) := by
  have m36 := ia_mul 360 360 n360 (J 1) (by omega) (by omega)
  have n1 : (1 : Int32).toInt = 1 := by decide
  have n0 : (0 : Int32).toInt = 0 := by decide
  have nm : (-1 : Int32).toInt = -1 := by decide
  have ni : ¬ i = -1 := by
    intro z
    rw [z, nm] at hi
    omega
  intro fu
  induction fu with
  | zero => intro fv y l v a S h; cases (show none = some a from h)
  | succ fu ih =>
    intro fv y l v a S h g v0 v1 yb l0 l1
    cases fv with
    | zero => cases (show none = some S from g)
    | succ fv =>
      rw [fX2_nthHour_L6.eq_2, hI] at h
      rw [fX12_hour_L67.eq_2] at g
      have ty : (nI y).toInt = (y : Int) := nI_toInt (by omega)
      rcases ifr h with ⟨c, h⟩ | ⟨c, h⟩
      · have g := wb_t c g
        unfold fX12_hour_J127 at g
        have g := wb_f ni g
        obtain ⟨r2, e2, g⟩ := wb_b g
        rcases rt12 j0 (by decide) e2 with ⟨q, -⟩ | ⟨-, q⟩
        · exact absurd rfl q
        · subst q
          have g := wb_t (c := (0 : Int32) = 0) rfl g
          rw [← Option.some.inj g]
          exact Or.inl ⟨(Option.some.inj h).symm, rfl⟩
      · have g := wb_f c g
        have c : ¬ _ := fun z => c ((le32 m36 ty).mpr z)
        have g := wb_f (c := (1 : Int32) = 0) (by decide) g
        have h := wb_f (fun z => by have := (lt32 rfl n0).mp z; omega) h
        obtain ⟨r1, f1, h⟩ := wb_b h
        obtain ⟨s1, d1, g⟩ := wb_b g
        have yl : y < 2520 := by omega
        obtain ⟨p1, p2⟩ := cdv yl
        obtain ⟨e, e2⟩ := hr_eq (hc (y / 360) (by omega)) p1 ⟨by omega, by omega⟩ hs g0 g7 f1 d1
        rw [← e] at g
        rcases ifr h with ⟨c1, h⟩ | ⟨c1, h⟩
        · have g := wb_t c1 g
          obtain ⟨v1', e1, h⟩ := wb_v h
          obtain ⟨w1, d1, g⟩ := wb_v g
          rw [e1, nI_1] at h
          rw [d1, nI_1] at g
          exact ih fv (y + 1) l v a S h g v0 (by omega) (by omega) l0 l1
        · have g := wb_f c1 g
          rcases ifr h with ⟨c2, h⟩ | ⟨c2, h⟩
          · have c2 := (eq32 rfl n0).mp c2
            have g := wb_t ((eq32 rfl rfl).mpr (show v.toInt = i.toInt by omega)) g
            rw [← Option.some.inj g, ← Option.some.inj h]
            exact Or.inr ⟨by omega, rfl⟩
          · have c2 : ¬ _ := fun z => c2 ((eq32 rfl n0).mpr z)
            have g := wb_f (fun z => by have := (eq32 rfl rfl).mp z; omega) g
            obtain ⟨v1', e1, h⟩ := wb_v h
            obtain ⟨v2', e2, h⟩ := wb_v h
            obtain ⟨w1, d1, g⟩ := wb_v g
            obtain ⟨w2, d2, g⟩ := wb_v g
            rw [e2, nI_1] at h
            rw [d2, nI_1] at g
            have tv := ia_add v 1 (by omega) (by omega)
            have hlt := Int32.toInt_lt l
            have tl := ia_add l (-1) (by omega) (by omega)
            rw [← d1] at tv
            rw [← e1] at tl
            exact ih fv (y + 1) v1' w1 a S h g (by omega) (by omega) (by omega) (by omega) (by omega)
/-- the reference looks for none below 0 -/
theorem hn_neg {N : Nat} {J : Nat → Int32} {L : Int64} {K : Nat → Nat → Int32} {n x1 x2 i b : Int32} (h7 : (J 1).toInt ≤ 7) (h70 : 0 ≤ (J 1).toInt) (j0 : J 0 = 0) (hi : i.toInt < -1) : ∀ (fv y : Nat) (v : Int32) S, fX12_hour_L67 N x1 x2 i n b fv J L K v (nI y) = some S → 0 ≤ v.toInt → v.toInt ≤ (y : Int) → (y : Int) ≤ 360 * (J 1).toInt → S.2.1 0 = 1 := by
  have m36 := ia_mul 360 360 n360 (J 1) (by omega) (by omega)
  have n1 : (1 : Int32).toInt = 1 := by decide
  have nm : (-1 : Int32).toInt = -1 := by decide
  have ni : ¬ i = -1 := by
    intro z
    rw [z, nm] at hi
    omega
  intro fv
  induction fv with
  | zero => intro y v S g; cases (show none = some S from g)
  | succ fv ih =>
    intro y v S g v0 v1 yb
    rw [fX12_hour_L67.eq_2] at g
    have ty : (nI y).toInt = (y : Int) := nI_toInt (by omega)
    have fin : fX12_hour_J127 N x1 x2 i J L K v = some S → S.2.1 0 = 1 := by
      intro g
      unfold fX12_hour_J127 at g
      have g := wb_f ni g
      obtain ⟨r2, e2, g⟩ := wb_b g
      rcases rt12 j0 (by decide) e2 with ⟨q, -⟩ | ⟨-, q⟩
      · exact absurd rfl q
      · subst q
        have g := wb_t (c := (0 : Int32) = 0) rfl g
        rw [← Option.some.inj g]
        rfl
    rcases ifr g with ⟨c, g⟩ | ⟨c, g⟩
    · exact fin g
    · have c : ¬ _ := fun z => c ((le32 m36 ty).mpr z)
      rcases ifr g with ⟨c1, g⟩ | ⟨c1, g⟩
      · exact fin g
      · obtain ⟨s1, d1, g⟩ := wb_b g
        rcases ifr g with ⟨c2, g⟩ | ⟨c2, g⟩
        · obtain ⟨w1, d1, g⟩ := wb_v g
          rw [d1, nI_1] at g
          exact ih (y + 1) v S g v0 (by omega) (by omega)
        · have g := wb_f (fun z => by have := (eq32 rfl rfl).mp z; omega) g
          obtain ⟨w1, d1, g⟩ := wb_v g
          obtain ⟨w2, d2, g⟩ := wb_v g
          rw [d2, nI_1] at g
          have tv := ia_add v 1 (by omega) (by omega)
          rw [← d1] at tv
          exact ih (y + 1) w1 S g (by omega) (by omega) (by omega)
/-- with nothing told it looks for none -/
theorem hn_no {N : Nat} {J : Nat → Int32} {L : Int64} {K : Nat → Nat → Int32} {n x1 x2 i : Int32} (j0 : J 0 = 0) (ni : ¬ i = -1) {fv : Nat} {v y : Int32} {S : Int32 × (Nat → Int32) × Int64 × (Nat → Nat → Int32)} (g : fX12_hour_L67 N x1 x2 i n 0 fv J L K v y = some S) : S.2.1 0 = 1 := by
  cases fv with
  | zero => cases (show none = some S from g)
  | succ fv =>
    rw [fX12_hour_L67.eq_2] at g
    have fin : fX12_hour_J127 N x1 x2 i J L K v = some S → S.2.1 0 = 1 := by
      intro g
      unfold fX12_hour_J127 at g
      have g := wb_f ni g
      obtain ⟨r2, e2, g⟩ := wb_b g
      rcases rt12 j0 (by decide) e2 with ⟨q, -⟩ | ⟨-, q⟩
      · exact absurd rfl q
      · subst q
        have g := wb_t (c := (0 : Int32) = 0) rfl g
        rw [← Option.some.inj g]
        rfl
    rcases ifr g with ⟨c, g⟩ | ⟨c, g⟩
    · exact fin g
    · exact fin (wb_t (c := (0 : Int32) = 0) rfl g)
/-! AGREE alike -/
/-! THE LOT alike -/
theorem rm360 {x : Int32} (h0 : 0 ≤ x.toInt) : (x - x / 360 * 360).toInt = x.toInt % 360 := ia_rem x 360 360 n360 (by omega) h0
/-- THE LOT, as a number -/
noncomputable def lotv (r s m : Int) : Int := if (r - s) % 360 < 180 then (r + m - s) % 360 else (r + s - m) % 360
theorem lt11 {N : Nat} {I : Nat → Int32} {M : Nat → Nat → Int32} {n a : Int32} (h : fX1_lotOf N I M n = some a) : ∃ s m r, fX1_degreeOf N I M n 0 = some s ∧ fX1_degreeOf N I M n 1 = some m ∧ fX1_degreeOf N I M n 7 = some r ∧ ((s = -1 ∨ m = -1 ∨ r = -1) ∧ a = -1 ∨ (¬ s = -1 ∧ ¬ m = -1 ∧ ¬ r = -1) ∧ ((0 ≤ s.toInt ∧ s.toInt ≤ 359) → (0 ≤ m.toInt ∧ m.toInt ≤ 359) → (0 ≤ r.toInt ∧ r.toInt ≤ 359) → a.toInt = lotv r.toInt s.toInt m.toInt)) := by
  unfold fX1_lotOf at h
  obtain ⟨s, e1, h⟩ := wb_b h
  obtain ⟨m, e2, h⟩ := wb_b h
  obtain ⟨r, e3, h⟩ := wb_b h
  refine ⟨s, m, r, e1, e2, e3, ?_⟩
  rcases ifr h with ⟨c1, h⟩ | ⟨c1, h⟩
  · exact Or.inl ⟨Or.inl c1, (Option.some.inj h).symm⟩
  rcases ifr h with ⟨c2, h⟩ | ⟨c2, h⟩
  · exact Or.inl ⟨Or.inr (Or.inl c2), (Option.some.inj h).symm⟩
  rcases ifr h with ⟨c3, h⟩ | ⟨c3, h⟩
  · exact Or.inl ⟨Or.inr (Or.inr c3), (Option.some.inj h).symm⟩
  refine Or.inr ⟨⟨c1, c2, c3⟩, fun hs hm hr => ?_⟩
  have n180 : (180 : Int32).toInt = 180 := by decide
  obtain ⟨r6, e6, h⟩ := wb_b h
  have x1 := ia_sub r s (by omega) (by omega)
  have x6 := fmd32 n360 (by omega) e6
  rw [x1] at x6
  unfold lotv
  rcases ifr h with ⟨c, h⟩ | ⟨c, h⟩
  · have c := (le32 n180 rfl).mp c
    unfold fX1_lotOf_J62 at h
    have h := wb_t (c := (0 : Int32) = 0) rfl h
    obtain ⟨q, eq, h⟩ := wb_b h
    have x2 := ia_add r s (by omega) (by omega)
    have x3 := ia_sub (r + s) m (by omega) (by omega)
    have x4 := fmd32 n360 (by omega) eq
    rw [if_neg (by omega), ← Option.some.inj h, x4, x3, x2]
  · have c : ¬ _ := fun z => c ((le32 n180 rfl).mpr z)
    unfold fX1_lotOf_J62 at h
    have h := wb_f (c := (1 : Int32) = 0) (by decide) h
    obtain ⟨q, eq, h⟩ := wb_b h
    have x2 := ia_add r m (by omega) (by omega)
    have x3 := ia_sub (r + m) s (by omega) (by omega)
    have x4 := fmd32 n360 (by omega) eq
    rw [if_pos (by omega), ← Option.some.inj h, x4, x3, x2]
/-- the reference's, behind its checks -/
theorem lt12 {N : Nat} {x1 x2 x3 n s m r : Int32} {J : Nat → Int32} {L : Int64} {K : Nat → Nat → Int32} {S : Int32 × (Nat → Int32) × Int64 × (Nat → Nat → Int32)} (hs : 0 ≤ s.toInt ∧ s.toInt ≤ 359) (hm : 0 ≤ m.toInt ∧ m.toInt ≤ 359) (hr : 0 ≤ r.toInt ∧ r.toInt ≤ 359) (h : fX12_lot_J106 N x1 x2 x3 J L K n s m r = some S) : ∃ v : Int32, v.toInt = lotv r.toInt s.toInt m.toInt ∧ fX12_lot_J165 N x1 x2 x3 J L K n v = some S := by
  have n180 : (180 : Int32).toInt = 180 := by decide
  unfold fX12_lot_J106 at h
  obtain ⟨v3, e3, h⟩ := wb_v h
  have y1 := ia_sub m s (by omega) (by omega)
  have y2 := ia_add (m - s) 360 (by rw [n360]; omega) (by rw [n360]; omega)
  rw [n360, y1] at y2
  have y3 := rm360 (x := m - s + 360) (by omega)
  rw [← e3, y2] at y3
  have z1 := ia_sub r s (by omega) (by omega)
  have z2 := ia_add (r - s) 360 (by rw [n360]; omega) (by rw [n360]; omega)
  rw [n360, z1] at z2
  have z3 := rm360 (x := r - s + 360) (by omega)
  rw [z2] at z3
  clear e3
  unfold lotv
  rcases ifr h with ⟨c, h⟩ | ⟨c, h⟩
  · have c := (le32 n180 z3).mp c
    have w1 := ia_sub r v3 (by omega) (by omega)
    have w2 := ia_add (r - v3) 360 (by rw [n360]; omega) (by rw [n360]; omega)
    rw [n360, w1] at w2
    have w3 := rm360 (x := r - v3 + 360) (by omega)
    refine ⟨_, ?_, h⟩
    rw [if_neg (by omega), w3, w2]
    omega
  · have c : ¬ _ := fun z => c ((le32 n180 z3).mpr z)
    have w1 := ia_add r v3 (by omega) (by omega)
    have w3 := rm360 (x := r + v3) (by omega)
    refine ⟨_, ?_, h⟩
    rw [if_pos (by omega), w3, w1]
    omega
/-! what can be -/
/-- what the reference does with a climate, ways asked for -/
theorem p164 {N2 : Nat} {J : Nat → Int32} {L : Int64} {K : Nat → Nat → Int32} {n x1 x2 v6 y1 x r : Int32} {g88 : (Nat → Int32) → Int64 → (Nat → Nat → Int32) → Int32 → Int32 → Option (Int32 × (Nat → Int32) × Int64 × (Nat → Nat → Int32))} {g126 : (Nat → Int32) → Int64 → (Nat → Nat → Int32) → Int32 → Int32 → Int32 → Option (Int32 × (Nat → Int32) × Int64 × (Nat → Nat → Int32))} {fv : Nat} {S : Int32 × (Nat → Int32) × Int64 × (Nat → Nat → Int32)} (g : fX12_possible_L164 N2 x1 x2 0 r v6 y1 x n g88 g126 fv J L K 0 0 = some S) : g126 J L K v6 y1 (x + 1) = some S := by
  cases fv with
  | zero => cases (show none = some S from g)
  | succ fv =>
    rw [fX12_possible_L164.eq_2] at g
    have g := wb_f (c := (0 : Int32) = 1) (by decide) (wb_f (c := (360 : Int32) ≤ 0) (by decide) g)
    unfold fX12_possible_J208 at g
    have g := wb_t (c := (0 : Int32) = 0) rfl g
    obtain ⟨w, ew, g⟩ := wb_v g
    rw [ew] at g
    exact g
/-- 'all houses AGREE', of both -/
noncomputable def AGQ (N N2 : Nat) (I1 : Nat → Int32) (m1 : Nat → Nat → Int32) (I : Nat → Int32) (M : Nat → Nat → Int32) (J : Nat → Int32) (L : Int64) (K : Nat → Nat → Int32) (n told : Int32) : Prop := ∀ w x a b, (w = 0 ∨ w = 1 ∨ (w = 2 ∧ 0 ≤ x.toInt ∧ x.toInt < (J 1).toInt)) → fX1_howManyDiffer N I (wb_sh M 13) I1 m1 n w x = some a → fX12_agrees N2 J L K n w x = some b → (b = told ↔ a = 0)
/-- the two ways without a climate -/
theorem w88 {N N2 : Nat} {I0 J : Nat → Int32} {L : Int64} {M0 K : Nat → Nat → Int32} {n told x1 x2 x3 d0 d1 : Int32} (hq : AGQ N N2 (wb_sh I0 9) (wb_sh M0 5) (wb_sh I0 13) M0 J L K n told) (f0 : fX1_howManyDiffer N (wb_sh I0 13) (wb_sh M0 13) (wb_sh I0 9) (wb_sh M0 5) n 0 0 = some d0) (f1 : fX1_howManyDiffer N (wb_sh I0 13) (wb_sh M0 13) (wb_sh I0 9) (wb_sh M0 5) n 1 0 = some d1) {fv : Nat} {S : Int32 × (Nat → Int32) × Int64 × (Nat → Nat → Int32)} (g : fX12_possible_L88 N2 x1 x2 x3 told n fv J L K 0 0 = some S) : ∃ (g88 : (Nat → Int32) → Int64 → (Nat → Nat → Int32) → Int32 → Int32 → Option (Int32 × (Nat → Int32) × Int64 × (Nat → Nat → Int32))), fX12_possible_L126 N2 x1 x2 x3 told n g88 N2 J L K ((if d0 = 0 then (0 : Int32) ||| 1 else 0) ||| (if d1 = 0 then (2 : Int32) else 0)) 0 0 = some S := by
  have a0 : (0 : Int32) ||| ((1 : Int32) <<< (0 &&& 31)) = 1 := by decide
  have fin : ∀ (fv : Nat) (v : Int32), fX12_possible_L88 N2 x1 x2 x3 told n fv J L K v 2 = some S → ∃ (g88 : (Nat → Int32) → Int64 → (Nat → Nat → Int32) → Int32 → Int32 → Option (Int32 × (Nat → Int32) × Int64 × (Nat → Nat → Int32))), fX12_possible_L126 N2 x1 x2 x3 told n g88 N2 J L K v 0 0 = some S := by
    intro fv v g
    cases fv with
    | zero => cases (show none = some S from g)
    | succ fv =>
      rw [fX12_possible_L88.eq_2] at g
      exact ⟨_, wb_t (c := (2 : Int32) ≤ 2) (by decide) g⟩
  have snd : ∀ (fv : Nat) (v : Int32), (v = 0 ∨ v = 1) → fX12_possible_L88 N2 x1 x2 x3 told n fv J L K v 1 = some S → ∃ (g88 : (Nat → Int32) → Int64 → (Nat → Nat → Int32) → Int32 → Int32 → Option (Int32 × (Nat → Int32) × Int64 × (Nat → Nat → Int32))), fX12_possible_L126 N2 x1 x2 x3 told n g88 N2 J L K (v ||| (if d1 = 0 then (2 : Int32) else 0)) 0 0 = some S := by
    intro fv v hv g
    cases fv with
    | zero => cases (show none = some S from g)
    | succ fv =>
      rw [fX12_possible_L88.eq_2] at g
      have g := wb_f (c := (2 : Int32) ≤ 1) (by decide) g
      obtain ⟨r, e, g⟩ := wb_b g
      have q := hq 1 0 d1 r (Or.inr (Or.inl rfl)) f1 e
      rcases ifr g with ⟨c, g⟩ | ⟨c, g⟩
      · obtain ⟨w1, k1, g⟩ := wb_v g
        obtain ⟨w2, k2, g⟩ := wb_v g
        rw [k1, k2, show (1 : Int32) + 1 = 2 from by decide, show (1 : Int32) <<< ((1 : Int32) &&& 31) = 2 from by decide] at g
        rw [if_pos (q.mp c)]
        exact fin fv _ g
      · obtain ⟨w1, k1, g⟩ := wb_v g
        rw [k1, show (1 : Int32) + 1 = 2 from by decide] at g
        rw [if_neg (fun z => c (q.mpr z)), show v ||| (0 : Int32) = v from by rcases hv with z | z <;> rw [z] <;> decide]
        exact fin fv _ g
  cases fv with
  | zero => cases (show none = some S from g)
  | succ fv =>
    rw [fX12_possible_L88.eq_2] at g
    have g := wb_f (c := (2 : Int32) ≤ 0) (by decide) g
    obtain ⟨r, e, g⟩ := wb_b g
    have q := hq 0 0 d0 r (Or.inl rfl) f0 e
    rcases ifr g with ⟨c, g⟩ | ⟨c, g⟩
    · obtain ⟨w1, k1, g⟩ := wb_v g
      obtain ⟨w2, k2, g⟩ := wb_v g
      rw [k1, k2, a0, show (0 : Int32) + 1 = 1 from by decide] at g
      rw [if_pos (q.mp c), show (0 : Int32) ||| 1 = 1 from by decide]
      exact snd fv 1 (Or.inr rfl) g
    · obtain ⟨w1, k1, g⟩ := wb_v g
      rw [k1, show (0 : Int32) + 1 = 1 from by decide] at g
      rw [if_neg (fun z => c (q.mpr z))]
      exact snd fv 0 (Or.inl rfl) g
/-! SEARCHES of both -/
theorem ni1e6 : (1000000 : Int32).toInt = 1000000 := by decide
theorem ni1 : (1 : Int32).toInt = 1 := by decide
theorem ni0 : (0 : Int32).toInt = 0 := by decide
theorem nim1 : (-1 : Int32).toInt = -1 := by decide
theorem p1i {x : Int32} (h : x.toInt ≤ 2000000) : (x + 1).toInt = x.toInt + 1 := by
  have := Int32.le_toInt x
  have a := ia_add x 1 (by rw [ni1]; omega) (by rw [ni1]; omega)
  rw [ni1] at a
  exact a
/-- what a COST changes in the class's SEARCH -/
theorem la8 {N : Nat} {I : Nat → Int32} {M : Nat → Nat → Int32} {x : Int32} {R : (Nat → Int32) × (Nat → Nat → Int32)} (h : fX8_lookAt N I M x = some R) : (¬ x ≤ I 4 ∧ R = (I, M)) ∨ (x ≤ I 4 ∧ I 4 ≤ x ∧ R.1 = upd (upd I 5 (I 5 + 1)) 6 (I 3) ∧ ((20 ≤ I 5 ∧ R.2 = M) ∨ (¬ 20 ≤ I 5 ∧ ¬ I 5 < 0 ∧ R.2 = wb_um M 0 (I 5).toNatClampNeg (I 3)))) ∨ (x ≤ I 4 ∧ ¬ I 4 ≤ x ∧ R.1 = upd (upd (upd (upd I 4 x) 5 0) 5 (0 + 1)) 6 (I 3) ∧ R.2 = wb_um M 0 0 (I 3)) := by
  unfold fX8_lookAt at h
  rcases ifr h with ⟨c, h⟩ | ⟨c, h⟩
  · rcases ifr h with ⟨d, h⟩ | ⟨d, h⟩
    · refine Or.inr (Or.inl ⟨c, d, ?_⟩)
      unfold fX8_lookAt_J27 at h
      rcases ifr h with ⟨e, h⟩ | ⟨e, h⟩
      · unfold fX8_lookAt_J49 at h
        have h := Option.some.inj h
        rw [← h]
        exact ⟨rfl, Or.inl ⟨e, rfl⟩⟩
      · obtain ⟨n, h⟩ := wb_n h
        unfold fX8_lookAt_J49 at h
        have h := Option.some.inj h
        rw [← h]
        exact ⟨rfl, Or.inr ⟨e, fun z => n (Or.inl z), rfl⟩⟩
    · refine Or.inr (Or.inr ⟨c, d, ?_⟩)
      obtain ⟨i4, e4, h⟩ := wb_v h
      obtain ⟨i5, e5, h⟩ := wb_v h
      have z5 : i5 5 = 0 := by rw [e5]; rfl
      have z3 : i5 3 = I 3 := by rw [e5, e4]; rfl
      unfold fX8_lookAt_J27 at h
      rw [z5] at h
      have h := wb_f (c := (20 : Int32) ≤ 0) (by decide) h
      obtain ⟨-, h⟩ := wb_n h
      unfold fX8_lookAt_J49 at h
      have h := Option.some.inj h
      rw [← h]
      refine ⟨?_, ?_⟩
      · show upd (upd i5 5 (i5 5 + 1)) 6 (i5 3) = _
        rw [z5, z3, e5, e4]
      · show wb_um M 0 (0 : Int32).toNatClampNeg (i5 3) = _
        rw [z3]
        rfl
  · exact Or.inl ⟨c, (Option.some.inj h).symm⟩
noncomputable def QS (i m0 k : Nat → Int32) : Prop := i 1 = k 0 ∧ i 2 = k 1 ∧ i 3 = k 2 ∧ (0 ≤ (i 1).toInt ∧ (i 1).toInt ≤ 119) ∧ (0 ≤ (i 2).toInt ∧ (i 2).toInt ≤ 3) ∧ (0 ≤ (i 3).toInt ∧ (i 3).toInt ≤ 1000001) ∧ ((i 4 = 1000 ∧ i 5 = 0 ∧ i 6 = -1 ∧ k 3 = -1 ∧ k 4 = 0 ∧ k 5 = -1 ∧ k 6 = -1) ∨ (i 4 = k 3 ∧ (0 ≤ (i 4).toInt ∧ (i 4).toInt ≤ 93) ∧ i 5 = k 4 ∧ 1 ≤ (i 5).toInt ∧ (i 5).toInt ≤ (i 3).toInt ∧ m0 0 = k 5 ∧ i 6 = k 6))
theorem k12_0 : (0 : Int32).toNatClampNeg = 0 := by decide
theorem k12_1 : (1 : Int32).toNatClampNeg = 1 := by decide
theorem k12_2 : (2 : Int32).toNatClampNeg = 2 := by decide
theorem k12_3 : (3 : Int32).toNatClampNeg = 3 := by decide
theorem k12_4 : (4 : Int32).toNatClampNeg = 4 := by decide
theorem k12_5 : (5 : Int32).toNatClampNeg = 5 := by decide
theorem k12_6 : (6 : Int32).toNatClampNeg = 6 := by decide
/-- behind the reference's look at a COST: the DAY goes on -/
theorem j173s {N : Nat} {x y : Int32} {gg : (Nat → Int32) → Int64 → (Nat → Nat → Int32) → Int32 → Option (Int32 × (Nat → Int32) × Int64 × (Nat → Nat → Int32))} {J : Nat → Int32} {L : Int64} {K : Nat → Nat → Int32} {S : Int32 × (Nat → Int32) × Int64 × (Nat → Nat → Int32)} (h : fX12_on_J173 N x gg J L K y = some S) : gg J L (wb_um K 18 2 (K 18 2 + 1)) (y + 1) = some S := by
  unfold fX12_on_J173 at h
  rw [k12_2] at h
  obtain ⟨-, h⟩ := wb_n h
  obtain ⟨-, h⟩ := wb_n h
  obtain ⟨k5, e5, h⟩ := wb_v h
  obtain ⟨v6, e6, h⟩ := wb_v h
  rw [e5, e6] at h
  exact h
theorem j144s {N : Nat} {x y d v : Int32} {gg : (Nat → Int32) → Int64 → (Nat → Nat → Int32) → Int32 → Option (Int32 × (Nat → Int32) × Int64 × (Nat → Nat → Int32))} {J : Nat → Int32} {L : Int64} {K : Nat → Nat → Int32} {S : Int32 × (Nat → Int32) × Int64 × (Nat → Nat → Int32)} (h : fX12_on_J144 N x gg J L K y d v = some S) : (v = K 18 3 ∧ fX12_on_J173 N x gg J L (wb_um (wb_um K 18 4 (K 18 4 + 1)) 18 6 d) y = some S) ∨ (¬ v = K 18 3 ∧ fX12_on_J173 N x gg J L K y = some S) := by
  unfold fX12_on_J144 at h
  rw [k12_3, k12_4, k12_6] at h
  obtain ⟨-, h⟩ := wb_n h
  rcases ifr h with ⟨c, h⟩ | ⟨c, h⟩
  · obtain ⟨-, h⟩ := wb_n h
    obtain ⟨-, h⟩ := wb_n h
    obtain ⟨k7, e7, h⟩ := wb_v h
    obtain ⟨-, h⟩ := wb_n h
    obtain ⟨k8, e8, h⟩ := wb_v h
    rw [e8, e7] at h
    exact Or.inl ⟨c, h⟩
  · exact Or.inr ⟨c, h⟩
theorem j122s {N : Nat} {x y d v : Int32} {gg : (Nat → Int32) → Int64 → (Nat → Nat → Int32) → Int32 → Option (Int32 × (Nat → Int32) × Int64 × (Nat → Nat → Int32))} {J : Nat → Int32} {L : Int64} {K : Nat → Nat → Int32} {S : Int32 × (Nat → Int32) × Int64 × (Nat → Nat → Int32)} (h : fX12_on_J122 N x gg J L K y d v = some S) : fX12_on_J144 N x gg J L (wb_um (wb_um (wb_um K 18 3 v) 18 4 0) 18 5 d) y d v = some S := by
  unfold fX12_on_J122 at h
  rw [k12_3, k12_4, k12_5] at h
  obtain ⟨-, h⟩ := wb_n h
  obtain ⟨k7, e7, h⟩ := wb_v h
  obtain ⟨-, h⟩ := wb_n h
  obtain ⟨k8, e8, h⟩ := wb_v h
  obtain ⟨-, h⟩ := wb_n h
  obtain ⟨k9, e9, h⟩ := wb_v h
  rw [e9, e8, e7] at h
  exact h
/-- a look at a COST, of both -/
theorem lk_s {N N2 : Nat} {I : Nat → Int32} {M K : Nat → Nat → Int32} {v : Int32} {R : (Nat → Int32) × (Nat → Nat → Int32)} (q : QS I (M 0) (K 18)) (h3 : (I 3).toInt ≤ 1000000) (v0 : 0 ≤ v.toInt) (v1 : v.toInt ≤ 93) (h : fX8_lookAt N I M v = some R) : (R.1 3 = I 3 ∧ R.1 1 = I 1 ∧ R.1 2 = I 2 ∧ R.1 0 = I 0) ∧ ∀ (x y : Int32) (gg : (Nat → Int32) → Int64 → (Nat → Nat → Int32) → Int32 → Option (Int32 × (Nat → Int32) × Int64 × (Nat → Nat → Int32))) (J : Nat → Int32) (L : Int64) S, ((K 18 3 = -1 → fX12_on_J122 N2 x gg J L K y (K 18 2) v = some S) ∧ (¬ K 18 3 = -1 → K 18 3 ≤ v → fX12_on_J144 N2 x gg J L K y (K 18 2) v = some S) ∧ (¬ K 18 3 = -1 → ¬ K 18 3 ≤ v → fX12_on_J122 N2 x gg J L K y (K 18 2) v = some S)) → ∃ k : Nat → Int32, QS (upd R.1 3 (R.1 3 + 1)) (R.2 0) k ∧ gg J L (wb_mm K 18 k) (y + 1) = some S := by
  obtain ⟨q1, q2, q3, g1, g2, g3, q⟩ := q
  have t1000 : (1000 : Int32).toInt = 1000 := by decide
  have tt : (I 3 + 1).toInt = (I 3).toInt + 1 := p1i (by omega)
  have mm : ∀ (K : Nat → Nat → Int32) (i : Nat) (x : Int32), wb_um K 18 i x = wb_mm K 18 (upd (K 18) i x) := fun K i x => rfl
  have m2 : ∀ (K : Nat → Nat → Int32) (f g : Nat → Int32), wb_mm (wb_mm K 18 f) 18 g = wb_mm K 18 g := by
    intro K f g
    funext j
    unfold wb_mm
    by_cases e : j = 18
    · rw [if_pos e, if_pos e]
    · rw [if_neg e, if_neg e, if_neg e]
  -- the new least: both begin anew
  have new : (R.1 = upd (upd (upd (upd I 4 v) 5 0) 5 (0 + 1)) 6 (I 3) ∧ R.2 = wb_um M 0 0 (I 3)) → ∀ (x y : Int32) (gg : (Nat → Int32) → Int64 → (Nat → Nat → Int32) → Int32 → Option (Int32 × (Nat → Int32) × Int64 × (Nat → Nat → Int32))) (J : Nat → Int32) (L : Int64) S, fX12_on_J122 N2 x gg J L K y (K 18 2) v = some S → ∃ k : Nat → Int32, QS (upd R.1 3 (R.1 3 + 1)) (R.2 0) k ∧ gg J L (wb_mm K 18 k) (y + 1) = some S := by
    intro e x y gg J L S g
    rcases j144s (j122s g) with ⟨c, g⟩ | ⟨c, -⟩
    · have g := j173s g
      simp only [mm, m2] at g
      refine ⟨_, ?_, g⟩
      rw [e.1, e.2]
      refine ⟨q1, q2, ?_, g1, g2, ?_, Or.inr ⟨rfl, ⟨v0, v1⟩, rfl, ?_, ?_, ?_, ?_⟩⟩
      · show I 3 + 1 = K 18 2 + 1
        rw [q3]
      · show 0 ≤ (I 3 + 1).toInt ∧ (I 3 + 1).toInt ≤ 1000001
        rw [tt]; omega
      · show 1 ≤ ((0 : Int32) + 1).toInt
        decide
      · show ((0 : Int32) + 1).toInt ≤ (I 3 + 1).toInt
        rw [tt, show ((0 : Int32) + 1).toInt = 1 from by decide]; omega
      · exact q3
      · exact q3
    · exact absurd rfl c
  rcases la8 h with ⟨c, e⟩ | ⟨c, d, e, f⟩ | ⟨c, d, e, f⟩
  · -- above
    refine ⟨by rw [e]; exact ⟨rfl, rfl, rfl, rfl⟩, fun x y gg J L S g => ?_⟩
    rcases q with ⟨a1, -⟩ | ⟨a1, a2, a3, a4, a5, a6, a7⟩
    · exfalso
      refine c (Int32.le_iff_toInt_le.mpr ?_)
      rw [a1, t1000]; omega
    · have hk : ¬ K 18 3 = -1 := by
        intro z
        rw [← a1] at z
        rw [z, nim1] at a2
        omega
      have hle : K 18 3 ≤ v := by
        rw [← a1]
        have c : ¬ _ := fun z => c (Int32.le_iff_toInt_le.mpr z)
        exact Int32.le_iff_toInt_le.mpr (by omega)
      rcases j144s (g.2.1 hk hle) with ⟨w, -⟩ | ⟨-, g⟩
      · exact absurd (Int32.le_iff_toInt_le.mpr (by rw [w, a1]; omega)) c
      · have g := j173s g
        simp only [mm] at g
        refine ⟨_, ?_, g⟩
        rw [e]
        refine ⟨q1, q2, ?_, g1, g2, ?_, Or.inr ⟨a1, a2, a3, a4, ?_, a6, a7⟩⟩
        · show I 3 + 1 = K 18 2 + 1
          rw [q3]
        · show 0 ≤ (I 3 + 1).toInt ∧ (I 3 + 1).toInt ≤ 1000001
          rw [tt]; omega
        · show (I 5).toInt ≤ (I 3 + 1).toInt
          rw [tt]; omega
  · -- alike
    refine ⟨by rw [e]; exact ⟨rfl, rfl, rfl, rfl⟩, fun x y gg J L S g => ?_⟩
    have c := Int32.le_iff_toInt_le.mp c
    have d := Int32.le_iff_toInt_le.mp d
    rcases q with ⟨a1, -⟩ | ⟨a1, a2, a3, a4, a5, a6, a7⟩
    · exfalso
      rw [a1, t1000] at d
      omega
    · have hk : ¬ K 18 3 = -1 := by
        intro z
        rw [← a1] at z
        rw [z, nim1] at a2
        omega
      have hle : K 18 3 ≤ v := by
        rw [← a1]
        exact Int32.le_iff_toInt_le.mpr (by omega)
      rcases j144s (g.2.1 hk hle) with ⟨-, g⟩ | ⟨w, -⟩
      · have g := j173s g
        simp only [mm, m2] at g
        refine ⟨_, ?_, g⟩
        have t5 : (I 5 + 1).toInt = (I 5).toInt + 1 := p1i (by omega)
        rw [e]
        refine ⟨q1, q2, ?_, g1, g2, ?_, Or.inr ⟨a1, a2, ?_, ?_, ?_, ?_, ?_⟩⟩
        · show I 3 + 1 = K 18 2 + 1
          rw [q3]
        · show 0 ≤ (I 3 + 1).toInt ∧ (I 3 + 1).toInt ≤ 1000001
          rw [tt]; omega
        · show I 5 + 1 = K 18 4 + 1
          rw [a3]
        · show 1 ≤ (I 5 + 1).toInt
          rw [t5]; omega
        · show (I 5 + 1).toInt ≤ (I 3 + 1).toInt
          rw [t5, tt]; omega
        · rcases f with ⟨-, f⟩ | ⟨-, -, f⟩
          · rw [f]; exact a6
          · rw [f]
            show upd (M 0) (I 5).toNatClampNeg (I 3) 0 = K 18 5
            have hne : ¬ (0 : Nat) = (I 5).toNatClampNeg := by
              rw [cl32]; omega
            unfold upd
            rw [if_neg hne]
            exact a6
        · exact q3
      · exfalso
        exact w (by rw [← a1]; exact t32 (by omega))
  · -- below
    refine ⟨by rw [e]; exact ⟨rfl, rfl, rfl, rfl⟩, fun x y gg J L S g => ?_⟩
    refine new ⟨e, f⟩ x y gg J L S ?_
    rcases q with ⟨a1, a2, a3, a4, -⟩ | ⟨a1, a2, a3, a4, a5, a6, a7⟩
    · exact g.1 a4
    · refine g.2.2 ?_ ?_
      · intro z
        rw [← a1] at z
        rw [z, nim1] at a2
        omega
      · rw [← a1]; exact d
/-! BEST of both -/
theorem t1000 : (1000 : Int32).toInt = 1000 := by decide
theorem t999 : (999 : Int32).toInt = 999 := by decide
/-! WHOSE of both -/
theorem wh_l {N N2 : Nat} {Ic : Nat → Int32} {Mc : Nat → Nat → Int32} {I2 : Nat → Int32} {x1 x2 x3 x4 x5 y6 y7 y8 y9 : Int32} {gg : (Nat → Int32) → Int64 → (Nat → Nat → Int32) → Int32 → Int32 → Int32 → Int32 → Option (Int32 × (Nat → Int32) × Int64 × (Nat → Nat → Int32))} {J : Nat → Int32} {L : Int64} {K : Nat → Nat → Int32} (rg : ∀ j : Nat, -1 ≤ (Mc 13 j).toInt ∧ (Mc 13 j).toInt ≤ 389) (h9 : 0 ≤ y9.toInt ∧ y9.toInt ≤ 3) (h4 : 0 ≤ x3.toInt) (h5 : 0 ≤ x4.toInt) (h45 : x3.toInt + x4.toInt ≤ 1000000) (ht : HT Ic Mc J K) (er : EnR Mc K) : ∀ (fu fv : Nat) (I : Nat → Int32) (M : Nat → Nat → Int32) (y its d : Int32) R S, I 1 = (20 : Int32) * x1 + x2 → I 2 = y9 → I 3 = d → 0 ≤ y.toInt → d.toInt = x3.toInt + y.toInt → y.toInt ≤ x4.toInt + 1 → ((y.toInt = 0 ∧ I 4 = 1000 ∧ its = 999) ∨ (I 4 = its ∧ 0 ≤ its.toInt ∧ its.toInt ≤ 93)) → fX8_goOn_L3 N (wb_sh Ic 9) (wb_sh Mc 1) I2 (wb_sh Mc 13) (x4 + 1) fu I M y = some R → fX12_whose_L64 N2 x1 x2 x3 x4 x5 y6 y7 y8 y9 gg fv J L K its d = some S → (0 ≤ (R.2.1 4).toInt ∧ (R.2.1 4).toInt ≤ 93) ∧ (if R.2.1 4 ≤ y6 then (if y6 ≤ R.2.1 4 then (fX12_whose_J138 N2 x1 x2 x3 x4 x5 gg J L K y6 y7 y9 (R.2.1 4) (y8 + (1 : Int32))) else fX12_whose_J138 N2 x1 x2 x3 x4 x5 gg J L K y6 y7 y9 (R.2.1 4) (1 : Int32)) else (some (y9 + (1 : Int32))).bind fun v7 => gg J L K y6 y7 y8 v7) = some S := by
  have t45 := ia_add x3 x4 (by omega) (by omega)
  have t5 := p1i (x := x4) (by omega)
  intro fu
  induction fu with
  | zero => intro fv I M y its d R S i1 i2 i3 y0 hd yx q h; cases (show none = some R from h)
  | succ fu ih =>
    intro fv I M y its d R S i1 i2 i3 y0 hd yx q h g
    cases fv with
    | zero => cases (show none = some S from g)
    | succ fv =>
      rw [fX8_goOn_L3.eq_2] at h
      rw [fX12_whose_L64.eq_2] at g
      rcases ifr h with ⟨c, h⟩ | ⟨c, h⟩
      · have c := (le32 t5 rfl).mp c
        have g := wb_t ((lt32 t45 hd).mpr (by omega)) g
        have h := Option.some.inj h
        rw [← h]
        rcases q with ⟨z, -⟩ | ⟨a1, a2⟩
        · omega
        · show (0 ≤ (I 4).toInt ∧ (I 4).toInt ≤ 93) ∧ (if I 4 ≤ y6 then (if y6 ≤ I 4 then (fX12_whose_J138 N2 x1 x2 x3 x4 x5 gg J L K y6 y7 y9 (I 4) (y8 + (1 : Int32))) else fX12_whose_J138 N2 x1 x2 x3 x4 x5 gg J L K y6 y7 y9 (I 4) (1 : Int32)) else (some (y9 + (1 : Int32))).bind fun v7 => gg J L K y6 y7 y8 v7) = some S
          rw [a1]
          exact ⟨a2, g⟩
      · have c : ¬ _ := fun z => c ((le32 t5 rfl).mpr z)
        have g := wb_f (fun z => by have := (lt32 t45 hd).mp z; omega) g
        have h := wb_f (fun z => by have := (lt32 ni1e6 rfl).mp z; rw [i3] at this; omega) h
        obtain ⟨r1, f1, h⟩ := wb_b h
        obtain ⟨r2, f2, h⟩ := wb_b h
        obtain ⟨I3, eI3, h⟩ := wb_v h
        obtain ⟨w4, ew4, h⟩ := wb_v h
        obtain ⟨s1, d1, g⟩ := wb_b g
        have hb : BN (I 4) its := by
          rcases q with ⟨-, a1, a2⟩ | ⟨a1, -⟩
          · exact Or.inr ⟨by rw [a1]; decide, by rw [a2]; decide⟩
          · exact Or.inl a1
        rw [i1, i2, i3] at f1
        obtain ⟨e, z0, z1⟩ := co_eq ht er rg h9 ⟨by omega, by omega⟩ hb f1 d1
        rw [← e] at g
        clear f1 d1 e
        have td := p1i (x := d) (by omega)
        have ty := p1i (x := y) (by omega)
        rw [eI3, ew4] at h
        have go : ∀ its' : Int32, r2.1 1 = I 1 → r2.1 2 = I 2 → r2.1 3 = I 3 → r2.1 4 = its' → 0 ≤ its'.toInt → its'.toInt ≤ 93 → fX12_whose_L64 N2 x1 x2 x3 x4 x5 y6 y7 y8 y9 gg fv J L K its' (d + 1) = some S → (0 ≤ (R.2.1 4).toInt ∧ (R.2.1 4).toInt ≤ 93) ∧ (if R.2.1 4 ≤ y6 then (if y6 ≤ R.2.1 4 then (fX12_whose_J138 N2 x1 x2 x3 x4 x5 gg J L K y6 y7 y9 (R.2.1 4) (y8 + (1 : Int32))) else fX12_whose_J138 N2 x1 x2 x3 x4 x5 gg J L K y6 y7 y9 (R.2.1 4) (1 : Int32)) else (some (y9 + (1 : Int32))).bind fun v7 => gg J L K y6 y7 y8 v7) = some S := by
          intro its' p1 p2 p3 p4 l0 l1 g
          exact ih fv (upd r2.1 3 (r2.1 3 + 1)) r2.2 (y + 1) its' (d + 1) R S (by show r2.1 1 = _; rw [p1, i1]) (by show r2.1 2 = _; rw [p2, i2]) (by show r2.1 3 + 1 = _; rw [p3, i3]) (by omega) (by omega) (by omega) (Or.inr ⟨p4, l0, l1⟩) h g
        rcases la8 f2 with ⟨c1, e⟩ | ⟨c1, c2, e, -⟩ | ⟨c1, c2, e, -⟩
        · have c1 : ¬ _ := fun z => c1 (Int32.le_iff_toInt_le.mpr z)
          rcases q with ⟨-, a1, -⟩ | ⟨a1, a2, a3⟩
          · rw [a1, t1000] at c1; omega
          · have g := wb_t (Int32.le_iff_toInt_le.mpr (by rw [← a1]; omega)) g
            obtain ⟨v, ev, g⟩ := wb_v g
            rw [ev] at g
            exact go its (by rw [e]) (by rw [e]) (by rw [e]) (by rw [e]; exact a1) a2 a3 g
        · have c1 := Int32.le_iff_toInt_le.mp c1
          have c2 := Int32.le_iff_toInt_le.mp c2
          rcases q with ⟨-, a1, -⟩ | ⟨a1, a2, a3⟩
          · rw [a1, t1000] at c2; omega
          · have g := wb_t (Int32.le_iff_toInt_le.mpr (by rw [← a1]; omega)) g
            obtain ⟨v, ev, g⟩ := wb_v g
            rw [ev] at g
            exact go its (by rw [e]; rfl) (by rw [e]; rfl) (by rw [e]; rfl) (by rw [e]; exact a1) a2 a3 g
        · have c2 : ¬ _ := fun z => c2 (Int32.le_iff_toInt_le.mpr z)
          have g := wb_f (fun z => by
            have z := Int32.le_iff_toInt_le.mp z
            rcases q with ⟨-, -, a2⟩ | ⟨a1, -⟩
            · rw [a2, t999] at z; omega
            · rw [← a1] at z; omega) g
          obtain ⟨v, ev, g⟩ := wb_v g
          rw [ev] at g
          exact go r1 (by rw [e]; rfl) (by rw [e]; rfl) (by rw [e]; rfl) (by rw [e]; rfl) z0 z1 g
/-! ERRORS of both -/
noncomputable def bb (p q r s : Bool) : Int32 := nI ((if p then 1 else 0) + (if q then 2 else 0) + (if r then 4 else 0) + (if s then 8 else 0))
/-- a DEGREE by a SET, as the class reads it -/
theorem sa_st {N : Nat} {I : Nat → Int32} {m : Nat → Nat → Int32} {x k d : Int32} {fu : Nat} {v y a : Int32} (hy : ¬ (4 : Int32) ≤ y) (h : fX3_setsAt_L6 N I m x k d (fu + 1) v y = some a) : ∃ r, fX5_degreeOn N I m y k d = some r ∧ fX3_setsAt_L6 N I m x k d fu (if r = x then v ||| ((1 : Int32) <<< (y &&& 31)) else v) (y + 1) = some a := by
  rw [fX3_setsAt_L6.eq_2] at h
  have h := wb_f hy h
  obtain ⟨r, e, h⟩ := wb_b h
  refine ⟨r, e, ?_⟩
  rcases ifr h with ⟨c, h⟩ | ⟨c, h⟩
  · obtain ⟨u, f, h⟩ := wb_v h
    obtain ⟨w, g, h⟩ := wb_v h
    rw [f, g] at h
    rw [if_pos c]
    exact h
  · obtain ⟨w, g, h⟩ := wb_v h
    rw [g] at h
    rw [if_neg c]
    exact h
/-- what the class holds of a WANDERER -/
noncomputable def Cd (N : Nat) (I2 : Nat → Int32) (m2 : Nat → Nat → Int32) (I1 : Nat → Int32) (m1 : Nat → Nat → Int32) (n d : Int32) (k : Nat) (c : Int32) : Prop := ∃ r, fX1_degreeOf N I2 m2 n (nI k) = some r ∧ ((r = -1 ∧ c = -1) ∨ (¬ r = -1 ∧ ∃ d0 d1 d2 d3, fX5_degreeOn N I1 m1 0 (nI k) d = some d0 ∧ fX5_degreeOn N I1 m1 1 (nI k) d = some d1 ∧ fX5_degreeOn N I1 m1 2 (nI k) d = some d2 ∧ fX5_degreeOn N I1 m1 3 (nI k) d = some d3 ∧ ((d0 = r ∧ c = -1) ∨ (¬ d0 = r ∧ c = bb false (decide (d1 = r)) (decide (d2 = r)) (decide (d3 = r))))))
/-- what a WANDERER adds -/
noncomputable def ecf (c : Int32) : Int32 := if c = -1 then 0 else 1
noncomputable def scf (s c : Int32) : Int32 := if c = -1 then 0 else if ((c >>> (s &&& 31)) &&& 1) = 1 then 1 else 0
noncomputable def acf (s c : Int32) : Int32 := if c = ((1 : Int32) <<< (s &&& 31)) then 1 else 0
noncomputable def wcf (s c : Int32) : Int32 := if scf s c = 0 then 0 else if (fJ6_bitCount_0f7a4 0 c).getD 0 ≤ 0 then 0 else 6 / (fJ6_bitCount_0f7a4 0 c).getD 0
/-! the reference's rows -/
noncomputable def up3 (K : Nat → Nat → Int32) (s : Nat) (p : Bool) (b : Int32) : Nat → Nat → Int32 := if p then wb_um (wb_um (wb_um K 20 s (K 20 s + 1)) 21 s (K 21 s + (if b = 1 then 1 else 0))) 22 s (K 22 s + 6 / b) else K
/-- one SET in the reference's inner loop -/
theorem l187 {N : Nat} {x1 x2 x3 x4 r4 v7 b y90 : Int32} {g51 : (Nat → Int32) → Int64 → (Nat → Nat → Int32) → Int32 → Option (Int32 × (Nat → Int32) × Int64 × (Nat → Nat → Int32))} {g90 : (Nat → Int32) → Int64 → (Nat → Nat → Int32) → Int32 → Int32 → Option (Int32 × (Nat → Int32) × Int64 × (Nat → Nat → Int32))} {g145 : (Nat → Int32) → Int64 → (Nat → Nat → Int32) → Int32 → Int32 → Option (Int32 × (Nat → Int32) × Int64 × (Nat → Nat → Int32))} {fu s : Nat} (hs : s < 4) {J : Nat → Int32} {L : Int64} {K : Nat → Nat → Int32} {S : Int32 × (Nat → Int32) × Int64 × (Nat → Nat → Int32)} (h : fX12_errors_L187 N x1 x2 x3 x4 r4 v7 b y90 g51 g90 g145 (fu + 1) J L K (nI s) = some S) : ∃ q, fX12_placeOn N J L K (nI s) y90 x3 = some q ∧ fX12_errors_L187 N x1 x2 x3 x4 r4 v7 b y90 g51 g90 g145 fu J L (up3 K s (decide (q / 60 = r4)) b) (nI (s + 1)) = some S := by
  rw [fX12_errors_L187.eq_2, nI_clamp (by omega)] at h
  have h := wb_f (nI_ge (a := s) (b := 4) hs (by omega)) h
  obtain ⟨q, e, h⟩ := wb_b h
  refine ⟨q, e, ?_⟩
  rcases ifr h with ⟨c, h⟩ | ⟨c, h⟩
  · rw [decide_eq_true c]
    unfold up3
    rw [if_pos rfl]
    obtain ⟨-, h⟩ := wb_n h
    obtain ⟨-, h⟩ := wb_n h
    obtain ⟨m13, e13, h⟩ := wb_v h
    obtain ⟨-, h⟩ := wb_n h
    have fin : ∀ z : Int32, fX12_errors_J243 N x1 x2 x3 x4 r4 v7 b y90 g51 g90 g145 (fun q0 q1 q2 q3 => fX12_errors_L187 N x1 x2 x3 x4 r4 v7 b y90 g51 g90 g145 fu q0 q1 q2 q3) J L m13 (nI s) z (m13 21 s) (nI s) = some S → fX12_errors_L187 N x1 x2 x3 x4 r4 v7 b y90 g51 g90 g145 fu J L (wb_um (wb_um (wb_um K 20 s (K 20 s + 1)) 21 s (K 21 s + z)) 22 s (K 22 s + 6 / b)) (nI (s + 1)) = some S := by
      intro z h
      unfold fX12_errors_J243 at h
      rw [nI_clamp (by omega)] at h
      obtain ⟨-, h⟩ := wb_n h
      obtain ⟨m8, e8, h⟩ := wb_v h
      obtain ⟨-, h⟩ := wb_n h
      obtain ⟨-, h⟩ := wb_n h
      obtain ⟨-, h⟩ := wb_n h
      obtain ⟨m9, e9, h⟩ := wb_v h
      obtain ⟨v10, e10, h⟩ := wb_v h
      rw [e9, e10, e8, e13, nI_1] at h
      exact h
    rcases ifr h with ⟨c2, h⟩ | ⟨c2, h⟩
    · rw [if_pos c2]; exact fin 1 h
    · rw [if_neg c2]; exact fin 0 h
  · rw [decide_eq_false c]
    unfold up3
    rw [if_neg (by decide)]
    obtain ⟨w, ew, h⟩ := wb_v h
    rw [ew, nI_1] at h
    exact h
theorem l145 {N : Nat} {x1 x2 x3 x4 r4 v7 y90 : Int32} {g51 : (Nat → Int32) → Int64 → (Nat → Nat → Int32) → Int32 → Option (Int32 × (Nat → Int32) × Int64 × (Nat → Nat → Int32))} {g90 : (Nat → Int32) → Int64 → (Nat → Nat → Int32) → Int32 → Int32 → Option (Int32 × (Nat → Int32) × Int64 × (Nat → Nat → Int32))} {fu s : Nat} (hs : s < 4) {J : Nat → Int32} {L : Int64} {K : Nat → Nat → Int32} {b : Int32} {S : Int32 × (Nat → Int32) × Int64 × (Nat → Nat → Int32)} (h : fX12_errors_L145 N x1 x2 x3 x4 r4 v7 y90 g51 g90 (fu + 1) J L K b (nI s) = some S) : ∃ q, fX12_placeOn N J L K (nI s) y90 x3 = some q ∧ fX12_errors_L145 N x1 x2 x3 x4 r4 v7 y90 g51 g90 fu J L K (b + (if q / 60 = r4 then 1 else 0)) (nI (s + 1)) = some S := by
  rw [fX12_errors_L145.eq_2] at h
  have h := wb_f (nI_ge (a := s) (b := 4) hs (by omega)) h
  obtain ⟨q, e, h⟩ := wb_b h
  refine ⟨q, e, ?_⟩
  rcases ifr h with ⟨c, h⟩ | ⟨c, h⟩
  · obtain ⟨u, f, h⟩ := wb_v h
    obtain ⟨w, ew, h⟩ := wb_v h
    rw [f, ew, nI_1] at h
    rw [if_pos c]
    exact h
  · obtain ⟨u, f, h⟩ := wb_v h
    obtain ⟨w, ew, h⟩ := wb_v h
    rw [f, ew, nI_1] at h
    rw [if_neg c]
    exact h
theorem up3_o {K : Nat → Nat → Int32} {s : Nat} {p : Bool} {b : Int32} {j : Nat} (hj : j < 20) : up3 K s p b j = K j := by
  unfold up3
  cases p with
  | false => rfl
  | true =>
    rw [if_pos rfl]
    unfold wb_um
    rw [if_neg (by omega), if_neg (by omega), if_neg (by omega)]
theorem up3_v {K : Nat → Nat → Int32} {s : Nat} {p : Bool} {b : Int32} (t : Nat) : up3 K s p b 20 t = (if t = s then K 20 t + (if p then 1 else 0) else K 20 t) ∧ up3 K s p b 21 t = (if t = s then K 21 t + (if p then (if b = 1 then 1 else 0) else 0) else K 21 t) ∧ up3 K s p b 22 t = (if t = s then K 22 t + (if p then 6 / b else 0) else K 22 t) := by
  unfold up3
  cases p with
  | false =>
    simp only [Bool.false_eq_true, if_false, z32, ite_self]
    exact ⟨trivial, trivial, trivial⟩
  | true =>
    simp only [if_true]
    refine ⟨?_, ?_, ?_⟩
    · show upd (K 20) s (K 20 s + 1) t = _
      unfold upd
      by_cases e : t = s
      · rw [if_pos e, if_pos e, e]
      · rw [if_neg e, if_neg e]
    · show upd (K 21) s (K 21 s + (if b = 1 then 1 else 0)) t = _
      unfold upd
      by_cases e : t = s
      · rw [if_pos e, if_pos e, e]
      · rw [if_neg e, if_neg e]
    · show upd (K 22) s (K 22 s + 6 / b) t = _
      unfold upd
      by_cases e : t = s
      · rw [if_pos e, if_pos e, e]
      · rw [if_neg e, if_neg e]
/-- a WANDERER's part in the rows: eight cases -/
theorem cod (q r s : Bool) : ecf (bb false q r s) = 1 ∧ (scf 1 (bb false q r s) = (if q then 1 else 0) ∧ scf 2 (bb false q r s) = (if r then 1 else 0) ∧ scf 3 (bb false q r s) = (if s then 1 else 0)) ∧ (∀ b : Int32, b = (0 : Int32) + (if q then 1 else 0) + (if r then 1 else 0) + (if s then 1 else 0) → (acf 1 (bb false q r s) = (if q then (if b = 1 then 1 else 0) else 0) ∧ acf 2 (bb false q r s) = (if r then (if b = 1 then 1 else 0) else 0) ∧ acf 3 (bb false q r s) = (if s then (if b = 1 then 1 else 0) else 0)) ∧ (wcf 1 (bb false q r s) = (if q then 6 / b else 0) ∧ wcf 2 (bb false q r s) = (if r then 6 / b else 0) ∧ wcf 3 (bb false q r s) = (if s then 6 / b else 0))) := by
  refine ⟨?_, ?_, fun b hb => ?_⟩
  · revert q r s; decide +kernel
  · revert q r s; decide +kernel
  · subst hb
    revert q r s; decide +kernel
theorem cod0 : ecf (-1) = 0 ∧ (scf 1 (-1) = 0 ∧ scf 2 (-1) = 0 ∧ scf 3 (-1) = 0) ∧ (acf 1 (-1) = 0 ∧ acf 2 (-1) = 0 ∧ acf 3 (-1) = 0) ∧ (wcf 1 (-1) = 0 ∧ wcf 2 (-1) = 0 ∧ wcf 3 (-1) = 0) := by decide +kernel
/-- the reference's rows hold the sums of the class's codes -/
noncomputable def EV (m : Nat → Int32) (K : Nat → Nat → Int32) (v : Int32) (k : Nat) : Prop := v = sm2 (fun j => ecf (m j)) k ∧ (K 20 1 = sm2 (fun j => scf 1 (m j)) k ∧ K 20 2 = sm2 (fun j => scf 2 (m j)) k ∧ K 20 3 = sm2 (fun j => scf 3 (m j)) k) ∧ (K 21 1 = sm2 (fun j => acf 1 (m j)) k ∧ K 21 2 = sm2 (fun j => acf 2 (m j)) k ∧ K 21 3 = sm2 (fun j => acf 3 (m j)) k) ∧ (K 22 1 = sm2 (fun j => wcf 1 (m j)) k ∧ K 22 2 = sm2 (fun j => wcf 2 (m j)) k ∧ K 22 3 = sm2 (fun j => wcf 3 (m j)) k)
theorem EV.zero {m : Nat → Int32} {K : Nat → Nat → Int32} {v : Int32} {k : Nat} (h : EV m K v k) (hc : m k = -1) : EV m K v (k + 1) := by
  obtain ⟨a, ⟨b1, b2, b3⟩, ⟨c1, c2, c3⟩, d1, d2, d3⟩ := h
  obtain ⟨q, ⟨r1, r2, r3⟩, ⟨s1, s2, s3⟩, t1, t2, t3⟩ := cod0
  have e : ∀ f : Int32 → Int32, f (-1) = 0 → sm2 (fun j => f (m j)) (k + 1) = sm2 (fun j => f (m j)) k := by
    intro f hf
    show sm2 (fun j => f (m j)) k + f (m k) = _
    rw [hc, hf, z32]
  exact ⟨by rw [e ecf q]; exact a, ⟨by rw [e (scf 1) r1]; exact b1, by rw [e (scf 2) r2]; exact b2, by rw [e (scf 3) r3]; exact b3⟩, ⟨by rw [e (acf 1) s1]; exact c1, by rw [e (acf 2) s2]; exact c2, by rw [e (acf 3) s3]; exact c3⟩, by rw [e (wcf 1) t1]; exact d1, by rw [e (wcf 2) t2]; exact d2, by rw [e (wcf 3) t3]; exact d3⟩
theorem EV.add {m : Nat → Int32} {K : Nat → Nat → Int32} {v : Int32} {k : Nat} {p q r : Bool} {b : Int32} (h : EV m K v k) (hc : m k = bb false p q r) (hb : b = (0 : Int32) + (if p then 1 else 0) + (if q then 1 else 0) + (if r then 1 else 0)) : EV m (up3 (up3 (up3 K 1 p b) 2 q b) 3 r b) (v + 1) (k + 1) := by
  obtain ⟨a, ⟨b1, b2, b3⟩, ⟨c1, c2, c3⟩, d1, d2, d3⟩ := h
  obtain ⟨x, ⟨r1, r2, r3⟩, y⟩ := cod p q r
  obtain ⟨⟨s1, s2, s3⟩, t1, t2, t3⟩ := y b hb
  have e : ∀ (f : Int32 → Int32) (z w : Int32), f (bb false p q r) = z → w = sm2 (fun j => f (m j)) k → w + z = sm2 (fun j => f (m j)) (k + 1) := by
    intro f z w hf hw
    show _ = sm2 (fun j => f (m j)) k + f (m k)
    rw [hc, hf, hw]
  have u : ∀ (j t : Nat), (j = 20 ∨ j = 21 ∨ j = 22) → (t = 1 ∨ t = 2 ∨ t = 3) → up3 (up3 (up3 K 1 p b) 2 q b) 3 r b j t = K j t + (if j = 20 then (if (if t = 1 then p else if t = 2 then q else r) then 1 else 0) else if j = 21 then (if (if t = 1 then p else if t = 2 then q else r) then (if b = 1 then 1 else 0) else 0) else (if (if t = 1 then p else if t = 2 then q else r) then 6 / b else 0)) := by
    intro j t hj ht
    have v1 := up3_v (K := K) (s := 1) (p := p) (b := b) t
    have v2 := up3_v (K := up3 K 1 p b) (s := 2) (p := q) (b := b) t
    have v3 := up3_v (K := up3 (up3 K 1 p b) 2 q b) (s := 3) (p := r) (b := b) t
    rcases hj with rfl | rfl | rfl
    · rw [v3.1, v2.1, v1.1]
      rcases ht with rfl | rfl | rfl <;> simp
    · rw [v3.2.1, v2.2.1, v1.2.1]
      rcases ht with rfl | rfl | rfl <;> simp
    · rw [v3.2.2, v2.2.2, v1.2.2]
      rcases ht with rfl | rfl | rfl <;> simp
  refine ⟨e ecf 1 v x a, ⟨?_, ?_, ?_⟩, ⟨?_, ?_, ?_⟩, ?_, ?_, ?_⟩
  · rw [u 20 1 (by omega) (by omega)]; exact e (scf 1) _ _ r1 b1
  · rw [u 20 2 (by omega) (by omega)]; exact e (scf 2) _ _ r2 b2
  · rw [u 20 3 (by omega) (by omega)]; exact e (scf 3) _ _ r3 b3
  · rw [u 21 1 (by omega) (by omega)]; exact e (acf 1) _ _ s1 c1
  · rw [u 21 2 (by omega) (by omega)]; exact e (acf 2) _ _ s2 c2
  · rw [u 21 3 (by omega) (by omega)]; exact e (acf 3) _ _ s3 c3
  · rw [u 22 1 (by omega) (by omega)]; exact e (wcf 1) _ _ t1 d1
  · rw [u 22 2 (by omega) (by omega)]; exact e (wcf 2) _ _ t2 d2
  · rw [u 22 3 (by omega) (by omega)]; exact e (wcf 3) _ _ t3 d3
/-! ERRORS of both: the loops of the reference -/
theorem z145 {N : Nat} {x1 x2 x3 x4 r4 v7 y90 : Int32} {g51 : (Nat → Int32) → Int64 → (Nat → Nat → Int32) → Int32 → Option (Int32 × (Nat → Int32) × Int64 × (Nat → Nat → Int32))} {g90 : (Nat → Int32) → Int64 → (Nat → Nat → Int32) → Int32 → Int32 → Option (Int32 × (Nat → Int32) × Int64 × (Nat → Nat → Int32))} {fu : Nat} {J : Nat → Int32} {L : Int64} {K : Nat → Nat → Int32} {b s : Int32} {S : Int32 × (Nat → Int32) × Int64 × (Nat → Nat → Int32)} (h : fX12_errors_L145 N x1 x2 x3 x4 r4 v7 y90 g51 g90 fu J L K b s = some S) : ∃ f, fu = f + 1 := by
  cases fu with
  | zero => cases (show none = some S from h)
  | succ f => exact ⟨f, rfl⟩
theorem z187 {N : Nat} {x1 x2 x3 x4 r4 v7 b y90 : Int32} {g51 : (Nat → Int32) → Int64 → (Nat → Nat → Int32) → Int32 → Option (Int32 × (Nat → Int32) × Int64 × (Nat → Nat → Int32))} {g90 : (Nat → Int32) → Int64 → (Nat → Nat → Int32) → Int32 → Int32 → Option (Int32 × (Nat → Int32) × Int64 × (Nat → Nat → Int32))} {g145 : (Nat → Int32) → Int64 → (Nat → Nat → Int32) → Int32 → Int32 → Option (Int32 × (Nat → Int32) × Int64 × (Nat → Nat → Int32))} {fu : Nat} {J : Nat → Int32} {L : Int64} {K : Nat → Nat → Int32} {s : Int32} {S : Int32 × (Nat → Int32) × Int64 × (Nat → Nat → Int32)} (h : fX12_errors_L187 N x1 x2 x3 x4 r4 v7 b y90 g51 g90 g145 fu J L K s = some S) : ∃ f, fu = f + 1 := by
  cases fu with
  | zero => cases (show none = some S from h)
  | succ f => exact ⟨f, rfl⟩
/-- one WANDERER that is an ERROR -/
theorem er_in {N : Nat} {x1 x2 x3 x4 r4 v7 y90 : Int32} {g51 : (Nat → Int32) → Int64 → (Nat → Nat → Int32) → Int32 → Option (Int32 × (Nat → Int32) × Int64 × (Nat → Nat → Int32))} {g90 : (Nat → Int32) → Int64 → (Nat → Nat → Int32) → Int32 → Int32 → Option (Int32 × (Nat → Int32) × Int64 × (Nat → Nat → Int32))} {fu : Nat} {J : Nat → Int32} {L : Int64} {K : Nat → Nat → Int32} {S : Int32 × (Nat → Int32) × Int64 × (Nat → Nat → Int32)} {p1 p2 p3 : Bool} (hp : ∀ K' : Nat → Nat → Int32, (∀ j, j < 20 → K' j = K j) → (∀ q, fX12_placeOn N J L K' 1 y90 x3 = some q → decide (q / 60 = r4) = p1) ∧ (∀ q, fX12_placeOn N J L K' 2 y90 x3 = some q → decide (q / 60 = r4) = p2) ∧ (∀ q, fX12_placeOn N J L K' 3 y90 x3 = some q → decide (q / 60 = r4) = p3)) (h : fX12_errors_L145 N x1 x2 x3 x4 r4 v7 y90 g51 g90 fu J L K 0 1 = some S) : ∃ b : Int32, b = (0 : Int32) + (if p1 then 1 else 0) + (if p2 then 1 else 0) + (if p3 then 1 else 0) ∧ g90 J L (up3 (up3 (up3 K 1 p1 b) 2 p2 b) 3 p3 b) v7 (y90 + 1) = some S := by
  have cv : ∀ (q : Int32) (p : Bool), decide (q / 60 = r4) = p → (if q / 60 = r4 then (1 : Int32) else 0) = if p then 1 else 0 := by
    intro q p e
    rw [← e]
    by_cases c : q / 60 = r4
    · rw [if_pos c, decide_eq_true c, if_pos rfl]
    · rw [if_neg c, decide_eq_false c, if_neg (by decide)]
  obtain ⟨k1, k2, k3⟩ := hp K (fun _ _ => rfl)
  obtain ⟨f, e⟩ := z145 h
  rw [e] at h
  obtain ⟨q1, e1, h⟩ := l145 (s := 1) (by omega) h
  rw [cv q1 p1 (k1 q1 e1)] at h
  obtain ⟨f, e⟩ := z145 h
  rw [e] at h
  obtain ⟨q2, e2, h⟩ := l145 (s := 2) (by omega) h
  rw [cv q2 p2 (k2 q2 e2)] at h
  obtain ⟨f, e⟩ := z145 h
  rw [e] at h
  obtain ⟨q3, e3, h⟩ := l145 (s := 3) (by omega) h
  rw [cv q3 p3 (k3 q3 e3)] at h
  obtain ⟨f, e⟩ := z145 h
  rw [e, fX12_errors_L145.eq_2] at h
  have h := wb_t (by decide) h
  refine ⟨_, rfl, ?_⟩
  generalize (0 : Int32) + (if p1 then (1 : Int32) else 0) + (if p2 then (1 : Int32) else 0) + (if p3 then (1 : Int32) else 0) = b at h ⊢
  obtain ⟨f, e⟩ := z187 h
  rw [show fX12_errors_L187 N x1 x2 x3 x4 r4 v7 b y90 g51 g90 (fun q0 q1 q2 q3 q4 => fX12_errors_L145 N x1 x2 x3 x4 r4 v7 y90 g51 g90 _ q0 q1 q2 q3 q4) N J L K 1 = fX12_errors_L187 N x1 x2 x3 x4 r4 v7 b y90 g51 g90 (fun q0 q1 q2 q3 q4 => fX12_errors_L145 N x1 x2 x3 x4 r4 v7 y90 g51 g90 _ q0 q1 q2 q3 q4) (f + 1) J L K 1 from congrArg (fun z => fX12_errors_L187 N x1 x2 x3 x4 r4 v7 b y90 g51 g90 (fun q0 q1 q2 q3 q4 => fX12_errors_L145 N x1 x2 x3 x4 r4 v7 y90 g51 g90 _ q0 q1 q2 q3 q4) z J L K 1) e] at h
  obtain ⟨q1, e1, h⟩ := l187 (s := 1) (by omega) h
  rw [k1 q1 e1] at h
  obtain ⟨f, e⟩ := z187 h
  rw [e] at h
  obtain ⟨q2, e2, h⟩ := l187 (s := 2) (by omega) h
  rw [(hp _ (fun j hj => up3_o hj)).2.1 q2 e2] at h
  obtain ⟨f, e⟩ := z187 h
  rw [e] at h
  obtain ⟨q3, e3, h⟩ := l187 (s := 3) (by omega) h
  rw [(hp _ (fun j hj => (up3_o hj).trans (up3_o hj))).2.2 q3 e3] at h
  obtain ⟨f, e⟩ := z187 h
  rw [e, fX12_errors_L187.eq_2] at h
  have h := wb_t (by decide) h
  obtain ⟨w, ew, h⟩ := wb_v h
  rw [ew] at h
  exact h
/-- the rows begin at 0 -/
theorem er51 {N : Nat} {x1 x2 x3 x4 : Int32} {J : Nat → Int32} {L : Int64} {K : Nat → Nat → Int32} {S : Int32 × (Nat → Int32) × Int64 × (Nat → Nat → Int32)} (m : Nat → Int32) : ∀ (fv y : Nat) (K' : Nat → Nat → Int32), fX12_errors_L51 N x1 x2 x3 x4 fv J L K' (nI y) = some S → 1 ≤ y → y ≤ 4 → (∀ j, j < 20 → K' j = K j) → (∀ t, 1 ≤ t → t < y → K' 20 t = 0 ∧ K' 21 t = 0 ∧ K' 22 t = 0) → ∃ g51 K'', (∀ j, j < 20 → K'' j = K j) ∧ EV m K'' 0 0 ∧ fX12_errors_L90 N x1 x2 x3 x4 g51 N J L K'' 0 0 = some S := by
  have n4 : (4 : Int32).toInt = 4 := by decide
  intro fv
  induction fv with
  | zero => intro y K' h; cases (show none = some S from h)
  | succ fv ih =>
    intro y K' h y1 hy hK hz
    rw [fX12_errors_L51.eq_2] at h
    have ty : (nI y).toInt = (y : Int) := nI_toInt (by omega)
    rcases ifr h with ⟨c, h⟩ | ⟨c, h⟩
    · have c := (le32 n4 ty).mp c
      obtain ⟨a1, a2, a3⟩ := hz 1 (by omega) (by omega)
      obtain ⟨b1, b2, b3⟩ := hz 2 (by omega) (by omega)
      obtain ⟨c1, c2, c3⟩ := hz 3 (by omega) (by omega)
      exact ⟨_, K', hK, ⟨rfl, ⟨a1, b1, c1⟩, ⟨a2, b2, c2⟩, a3, b3, c3⟩, h⟩
    · have c : ¬ _ := fun z => c ((le32 n4 ty).mpr z)
      rw [nI_clamp (by omega)] at h
      obtain ⟨-, h⟩ := wb_n h
      obtain ⟨m1, e1, h⟩ := wb_v h
      obtain ⟨-, h⟩ := wb_n h
      obtain ⟨m2, e2, h⟩ := wb_v h
      obtain ⟨-, h⟩ := wb_n h
      obtain ⟨m3, e3, h⟩ := wb_v h
      obtain ⟨w, ew, h⟩ := wb_v h
      rw [ew, nI_1] at h
      refine ih (y + 1) m3 h (by omega) (by omega) (fun j hj => ?_) (fun t t1 t2 => ?_)
      · rw [e3, e2, e1]
        unfold wb_um
        rw [if_neg (by omega), if_neg (by omega), if_neg (by omega)]
        exact hK j hj
      · rw [e3, e2, e1]
        have hv : ∀ f : Nat → Int32, (t < y → f t = 0) → upd f y 0 t = 0 := by
          intro f hf
          unfold upd
          by_cases e : t = y
          · rw [if_pos e]
          · rw [if_neg e]; exact hf (by omega)
        exact ⟨hv (K' 20) (fun z => (hz t t1 z).1), hv (K' 21) (fun z => (hz t t1 z).2.1), hv (K' 22) (fun z => (hz t t1 z).2.2)⟩
/-! FOLLOWED alike -/
/-! ahead of the answers -/
theorem dg_rg {N : Nat} {J : Nat → Int32} {L : Int64} {K : Nat → Nat → Int32} {b w e r : Int32} (en : EN (K 7)) (rg : ∀ j : Nat, -1 ≤ (K 7 j).toInt ∧ (K 7 j).toInt ≤ 389) (hb : 0 ≤ b.toInt ∧ b.toInt ≤ 5) (hw : 0 ≤ w.toInt ∧ w.toInt ≤ 19) (he : 0 ≤ e.toInt ∧ e.toInt ≤ 20) (h : fX12_at N J L K ((20 : Int32) * b + w) e = some r) : (-1 ≤ r.toInt ∧ r.toInt ≤ 359) ∧ (¬ r = -1 → 0 ≤ r.toInt ∧ r.toInt ≤ 359) := by
  unfold fX12_at at h
  obtain ⟨-, h⟩ := wb_n h
  have t20 : (20 : Int32).toInt = 20 := by decide
  have t22 : (22 : Int32).toInt = 22 := by decide
  have m1 := ia_mul 20 20 t20 b (by omega) (by omega)
  have s1 := ia_add ((20 : Int32) * b) w (by omega) (by omega)
  have m2 := ia_mul 22 22 t22 ((20 : Int32) * b + w) (by omega) (by omega)
  have s2 := ia_add ((22 : Int32) * ((20 : Int32) * b + w)) e (by omega) (by omega)
  have idx : ((22 : Int32) * ((20 : Int32) * b + w) + e).toNatClampNeg = 22 * (20 * b.toInt.toNat + w.toInt.toNat) + e.toInt.toNat := by rw [cl32, s2, m2, s1, m1]; omega
  rw [idx] at h
  have a := en (20 * b.toInt.toNat + w.toInt.toNat) e.toInt.toNat (by omega)
  have c := rg (22 * (20 * b.toInt.toNat + w.toInt.toNat) + e.toInt.toNat)
  rw [Option.some.inj h] at a c
  refine ⟨⟨c.1, a⟩, fun hn => ⟨Int.not_lt.mp (fun z => hn ?_), a⟩⟩
  apply t32
  rw [nim1]
  omega
theorem lot_rg (r s m : Int) : 0 ≤ lotv r s m ∧ lotv r s m ≤ 359 := by
  unfold lotv
  by_cases c : (r - s) % 360 < 180
  · rw [if_pos c]; omega
  · rw [if_neg c]; omega
/-- HOURS: sun and RISE not told -/
theorem hrN {N : Nat} {I J : Nat → Int32} {M K : Nat → Nat → Int32} {L : Int64} {x1 x2 x3 a0 a7 n : Int32} {q : Nat ⊕ Int32} {s : Int32 × (Nat → Int32) × Int64 × (Nat → Nat → Int32)} (j0 : J 0 = 0) (h : fX11_hour_J49 N I M x1 x2 x3 a0 a7 0 = some q) (g : fX12_hour_J47 N x1 x2 x3 J L K n 0 = some s) : (q = .inl 1 ∧ s.2.1 0 = 1) ∨ ∃ a, q = .inr a ∧ s.2.1 0 = 0 ∧ a = s.1 := by
  unfold fX11_hour_J49 at h
  unfold fX12_hour_J47 at g
  have g := wb_t (c := (0 : Int32) = 0) rfl g
  rcases ifr h with ⟨c, h⟩ | ⟨c, h⟩
  · have g := Option.some.inj (wb_t c g)
    obtain ⟨a, ha, h⟩ := oki h
    have h := Option.some.inj (wb_t (c := (0 : Int32) = 0) rfl h)
    rw [← g]
    exact Or.inr ⟨a, ha, j0, h.symm⟩
  · have g := wb_f c g
    have h := wb_t (c := (0 : Int32) = 0) rfl h
    unfold fX11_hour_J104 at h
    have h := wb_t (c := (-1 : Int32) = -1) rfl h
    unfold fX12_hour_J61 at g
    rcases nd11 h with ⟨-, w⟩ | ⟨w, -⟩
    · exact Or.inl ⟨w, hn_no j0 c g⟩
    · exact absurd rfl w
theorem bg8 {N : Nat} {I : Nat → Int32} {M : Nat → Nat → Int32} {a b c : Int32} {r : (Nat → Int32) × (Nat → Nat → Int32)} (h : fX8_begin N I M a b c = some r) : r.1 0 = 1 ∧ r.1 1 = a ∧ r.1 2 = b ∧ r.1 3 = c ∧ r.1 4 = 1000 ∧ r.1 5 = 0 ∧ r.1 6 = -1 ∧ r.2 = M := by
  unfold fX8_begin at h
  have h := Option.some.inj h
  rw [← h]
  exact ⟨rfl, rfl, rfl, rfl, rfl, rfl, rfl, rfl⟩
/-- the latest BEST of both -/
noncomputable def QBR (I : Nat → Int32) (M : Nat → Nat → Int32) (J : Nat → Int32) (K : Nat → Nat → Int32) : Prop := (I 13 = 0 ∧ J 15 = -1) ∨ (I 13 = 1 ∧ I 18 = J 15 ∧ 1 ≤ (I 18).toInt ∧ ∀ j : Nat, j < 20 → (j : Int) < (I 18).toInt → M 16 j = K 17 j)
theorem QBR.cg {I I' J J' : Nat → Int32} {M M' K K' : Nat → Nat → Int32} (h : QBR I M J K) (a : I' 13 = I 13) (b : I' 18 = I 18) (c : M' 16 = M 16) (d : J' 15 = J 15) (e : K' 17 = K 17) : QBR I' M' J' K' := by
  unfold QBR at h ⊢
  rw [a, b, c, d, e]
  exact h
/-- a SEARCH of the class in its place, seen from the whole state -/
theorem ht_sh {I J : Nat → Int32} {M K : Nat → Nat → Int32} {o n : Nat} {i : Nat → Int32} {m : Nat → Nat → Int32} {p k : Nat} (ht : HT I M J K) (ho : 11 ≤ o) (hp : 7 ≤ p) : HT (wb_in I o n i) (wb_in M p k m) J K := ht.cg (wbi_ge (Or.inl (by omega))) (wbi_ge (Or.inl (by omega))) (fun j h1 _ => wbi_ge (Or.inl (by omega))) rfl rfl (fun _ _ => rfl)
theorem er_sh {M K : Nat → Nat → Int32} {m : Nat → Nat → Int32} {p k : Nat} (er : EnR M K) (hp : 14 ≤ p) : EnR (wb_in M p k m) K := er.cg (wbi_ge (Or.inl (by omega))) rfl
/-- WHOSE: the SETS one behind another -/
theorem wo_l {N N2 : Nat} {x1 x2 x3 x4 x5 : Int32} {J : Nat → Int32} {L : Int64} {K : Nat → Nat → Int32} (h4 : 0 ≤ x3.toInt) (h5 : 0 ≤ x4.toInt) (h45 : x3.toInt + x4.toInt ≤ 1000000) : ∀ (fu fv y : Nat) (I : Nat → Int32) (M : Nat → Nat → Int32) (a b c a2 b2 c2 : Int32) R S, HT I M J K → EnR M K → (∀ j : Nat, -1 ≤ (M 13 j).toInt ∧ (M 13 j).toInt ≤ 389) → y ≤ 4 → ((y = 0 ∧ a = 1000 ∧ a2 = 999) ∨ (1 ≤ y ∧ a = a2 ∧ (0 ≤ a.toInt ∧ a.toInt ≤ 93) ∧ b = b2 ∧ c = c2)) → fX11_whose_L55 N x1 x2 x3 x4 x5 ((20 : Int32) * x1 + x2) fu I M a b c (nI y) = some R → fX12_whose_L50 N2 x1 x2 x3 x4 x5 fv J L K a2 b2 c2 (nI y) = some S → R.1 = S.1 ∧ S.2.1 = J := by
  have n4 : (4 : Int32).toInt = 4 := by decide
  intro fu
  induction fu with
  | zero => intro fv y I M a b c a2 b2 c2 R S ht er rg hy q h; cases (show none = some R from h)
  | succ fu ih =>
    intro fv y I M a b c a2 b2 c2 R S ht er rg hy q h g
    cases fv with
    | zero => cases (show none = some S from g)
    | succ fv =>
      rw [fX11_whose_L55.eq_2] at h
      rw [fX12_whose_L50.eq_2] at g
      have ty : (nI y).toInt = (y : Int) := nI_toInt (by omega)
      rcases ifr h with ⟨d, h⟩ | ⟨d, h⟩
      · have g := wb_t d g
        have d := (le32 n4 ty).mp d
        rcases q with ⟨q0, -⟩ | ⟨-, q1, -, q3, q4⟩
        · omega
        · rcases ifr h with ⟨e, h⟩ | ⟨e, h⟩
          · have g := wb_t e g
            rw [← Option.some.inj h, ← Option.some.inj g]
            exact ⟨q3, rfl⟩
          · have g := wb_f e g
            rcases ifr h with ⟨e2, h⟩ | ⟨e2, h⟩
            · have g := wb_t e2 g
              rw [← Option.some.inj h, ← Option.some.inj g]
              exact ⟨q1, rfl⟩
            · have g := wb_f e2 g
              rw [← Option.some.inj h, ← Option.some.inj g]
              exact ⟨q4, rfl⟩
      · have g := wb_f d g
        have d : ¬ _ := fun z => d ((le32 n4 ty).mpr z)
        obtain ⟨r7, f7, h⟩ := wb_b h
        obtain ⟨I8, e8, h⟩ := wb_v h
        obtain ⟨M9, e9, h⟩ := wb_v h
        obtain ⟨r10, f10, h⟩ := wb_b h
        obtain ⟨I11, e11, h⟩ := wb_v h
        obtain ⟨M12, e12, h⟩ := wb_v h
        obtain ⟨b0, b1, b2', b3, b4, b5, b6, b7⟩ := bg8 f7
        have ht8 : HT I8 M9 J K := by rw [e8, e9]; exact ht_sh ht (by omega) (by omega)
        have er8 : EnR M9 K := by rw [e9]; exact er_sh er (by omega)
        have rg8 : ∀ j : Nat, -1 ≤ (M9 13 j).toInt ∧ (M9 13 j).toInt ≤ 389 := by
          intro j
          rw [e9, wbi_ge (Or.inl (by omega))]
          exact rg j
        have at8 : ∀ k, k < 7 → wb_sh I8 20 k = r7.1 k := by
          intro k hk
          rw [e8]
          show wb_in I 20 7 r7.1 (k + 20) = r7.1 k
          rw [wbi_in (by omega) (by omega), Nat.add_sub_cancel]
        unfold fX8_goOn at f10
        have w := wh_l (N := N) (N2 := N2) (Ic := I8) (Mc := M9) (x5 := x5) rg8 ⟨by omega, by omega⟩ h4 h5 h45 ht8 er8 N N2 (wb_sh I8 20) (wb_sh M9 17) 0 999 x3 r10 S (by rw [at8 1 (by omega), b1]) (by rw [at8 2 (by omega), b2']) (by rw [at8 3 (by omega), b3]) (by decide) (by rw [ni0]; omega) (by rw [ni0]; omega) (Or.inl ⟨by decide, by rw [at8 4 (by omega), b4], rfl⟩) f10 g
        obtain ⟨w1, g⟩ := w
        have i24 : I11 24 = r10.2.1 4 := by
          rw [e11]
          exact wbi_in (by omega) (by omega)
        have ht11 : HT I11 M12 J K := by rw [e11, e12]; exact ht_sh ht8 (by omega) (by omega)
        have er11 : EnR M12 K := by rw [e12]; exact er_sh er8 (by omega)
        have rg11 : ∀ j : Nat, -1 ≤ (M12 13 j).toInt ∧ (M12 13 j).toInt ≤ 389 := by
          intro j
          rw [e12, wbi_ge (Or.inl (by omega))]
          exact rg8 j
        rw [i24] at h
        generalize r10.2.1 4 = its at w1 g h i24
        unfold fX11_whose_J121 at h
        unfold fX12_whose_J138 at g
        rw [i24] at h
        rcases ifr h with ⟨k, h⟩ | ⟨k, h⟩
        · -- no less than before: not the first SET
          have k := Int32.le_iff_toInt_le.mp k
          rcases q with ⟨-, q1, -⟩ | ⟨q0, q1, q2, q3, q4⟩
          · rw [q1, t1000] at k; omega
          · rw [← q1] at g
            rcases ifr h with ⟨e, h⟩ | ⟨e, h⟩
            · obtain ⟨v5, k5, h⟩ := wb_v h
              obtain ⟨v6, k6, h⟩ := wb_v h
              have g := wb_t (Int32.le_iff_toInt_le.mpr (by rw [e]; omega)) g
              have g := wb_t (Int32.le_iff_toInt_le.mpr k) g
              have g := wb_t (Int32.le_iff_toInt_le.mpr k) g
              obtain ⟨u5, l5, g⟩ := wb_v g
              rw [k5, k6, nI_1] at h
              rw [l5, nI_1] at g
              refine ih fv (y + 1) I11 M12 a b (c + 1) its b2 (c2 + 1) R S ht11 er11 rg11 (by omega) (Or.inr ⟨by omega, e.symm, q2, q3, by rw [q4]⟩) h g
            · obtain ⟨v4, k4, h⟩ := wb_v h
              have lt : a.toInt < its.toInt := by
                have : ¬ its.toInt = a.toInt := fun z => e (t32 z)
                omega
              have g := wb_f (fun z => by have := Int32.le_iff_toInt_le.mp z; omega) g
              obtain ⟨u5, l5, g⟩ := wb_v g
              rw [k4, nI_1] at h
              rw [l5, nI_1] at g
              exact ih fv (y + 1) I11 M12 a b c a b2 c2 R S ht11 er11 rg11 (by omega) (Or.inr ⟨by omega, rfl, q2, q3, q4⟩) h g
        · have k : ¬ _ := fun z => k (Int32.le_iff_toInt_le.mpr z)
          obtain ⟨v13, k13, h⟩ := wb_v h
          rw [k13] at h
          have h := wb_t rfl h
          obtain ⟨v5, k5, h⟩ := wb_v h
          obtain ⟨v6, k6, h⟩ := wb_v h
          have lt : its.toInt < a2.toInt := by
            rcases q with ⟨-, -, q2⟩ | ⟨-, q1, -⟩
            · rw [q2, t999]; omega
            · rw [← q1]; omega
          have g := wb_t (Int32.le_iff_toInt_le.mpr (by omega)) g
          have g := wb_f (fun z => by have := Int32.le_iff_toInt_le.mp z; omega) g
          have g := wb_f (fun z => by have := Int32.le_iff_toInt_le.mp z; omega) g
          obtain ⟨u6, l6, g⟩ := wb_v g
          rw [k5, k6, nI_1] at h
          rw [l6, nI_1] at g
          exact ih fv (y + 1) I11 M12 its (nI y) (0 + 1) its (nI y) 1 R S ht11 er11 rg11 (by omega) (Or.inr ⟨by omega, rfl, w1, rfl, by decide⟩) h g
/-! SEARCH, image, LEAVES, outcomes: relations and answers -/
noncomputable def QSR (I : Nat → Int32) (M : Nat → Nat → Int32) (J : Nat → Int32) (K : Nat → Nat → Int32) : Prop := I 27 = J 16 ∧ (¬ I 27 = 0 → QS (wb_sh I 27) (M 18) (K 18))
noncomputable def QIR (I : Nat → Int32) (M : Nat → Nat → Int32) (J : Nat → Int32) (K : Nat → Nat → Int32) : Prop := I 34 = J 17 ∧ (¬ I 34 = 0 → QS (wb_sh I 34) (M 19) (K 19))
noncomputable def QL (I : Nat → Int32) (M : Nat → Nat → Int32) (J : Nat → Int32) (K : Nat → Nat → Int32) : Prop := ∀ b : Nat, b < 6 → M 24 b = K 27 b ∧ ∀ i : Nat, (i : Int) < (K 27 b).toInt → M 23 (20 * b + i) = K 28 (20 * b + i)
noncomputable def QO (I : Nat → Int32) (M : Nat → Nat → Int32) (J : Nat → Int32) (K : Nat → Nat → Int32) : Prop := OR M K
theorem QS.cg {i i' m m' k : Nat → Int32} (h : QS i m k) (a : ∀ j, j < 7 → i' j = i j) (b : m' 0 = m 0) : QS i' m' k := by
  unfold QS at h ⊢
  rw [a 1 (by omega), a 2 (by omega), a 3 (by omega), a 4 (by omega), a 5 (by omega), a 6 (by omega), b]
  exact h
theorem QSR.cg {I I' J J' : Nat → Int32} {M M' K K' : Nat → Nat → Int32} (h : QSR I M J K) (a : ∀ j, j < 34 → 27 ≤ j → I' j = I j) (c : M' 18 = M 18) (d : J' 16 = J 16) (e : K' 18 = K 18) : QSR I' M' J' K' := by
  unfold QSR at h ⊢
  rw [a 27 (by omega) (by omega), c, d, e]
  exact ⟨h.1, fun z => (h.2 z).cg (fun j hj => a (j + 27) (by omega) (by omega)) rfl⟩
theorem QIR.cg {I I' J J' : Nat → Int32} {M M' K K' : Nat → Nat → Int32} (h : QIR I M J K) (a : ∀ j, j < 41 → 34 ≤ j → I' j = I j) (c : M' 19 = M 19) (d : J' 17 = J 17) (e : K' 19 = K 19) : QIR I' M' J' K' := by
  unfold QIR at h ⊢
  rw [a 34 (by omega) (by omega), c, d, e]
  exact ⟨h.1, fun z => (h.2 z).cg (fun j hj => a (j + 34) (by omega) (by omega)) rfl⟩
theorem QL.cg {I I' J J' : Nat → Int32} {M M' K K' : Nat → Nat → Int32} (h : QL I M J K) (a : M' 23 = M 23) (b : M' 24 = M 24) (c : K' 27 = K 27) (d : K' 28 = K 28) : QL I' M' J' K' := by
  unfold QL at h ⊢
  rw [a, b, c, d]
  exact h
theorem QO.cg {I I' J J' : Nat → Int32} {M M' K K' : Nat → Nat → Int32} (h : QO I M J K) (a : M' 28 = M 28) (b : M' 29 = M 29) (c : M' 30 = M 30) (d : K' 32 = K 32) (e : K' 33 = K 33) (f : K' 34 = K 34) : QO I' M' J' K' := by
  unfold QO OR at h ⊢
  rw [a, b, c, d, e, f]
  exact h
/-! DAYS that are kept -/
/-- an image of the SEARCH -/
theorem cp8 {N : Nat} {I I2 : Nat → Int32} {M M2 : Nat → Nat → Int32} {r : (Nat → Int32) × (Nat → Nat → Int32)} (h : fX8_copyFrom N I M I2 M2 = some r) : (∀ j, j < 7 → r.1 j = I2 j) ∧ ∀ j, j < 20 → r.2 0 j = M2 0 j := by
  unfold fX8_copyFrom at h
  obtain ⟨-, h⟩ := wb_n h
  obtain ⟨a1, e1, h⟩ := wb_v h
  obtain ⟨a2, e2, h⟩ := wb_v h
  obtain ⟨a3, e3, h⟩ := wb_v h
  obtain ⟨a4, e4, h⟩ := wb_v h
  obtain ⟨a5, e5, h⟩ := wb_v h
  obtain ⟨a6, e6, h⟩ := wb_v h
  obtain ⟨a7, e7, h⟩ := wb_v h
  obtain ⟨-, h⟩ := wb_n h
  obtain ⟨m8, e8, h⟩ := wb_v h
  have h := Option.some.inj h
  rw [← h]
  refine ⟨fun j hj => ?_, fun j hj => ?_⟩
  · show a7 j = I2 j
    rw [e7, e6, e5, e4, e3, e2, e1]
    rcases (by omega : j = 0 ∨ j = 1 ∨ j = 2 ∨ j = 3 ∨ j = 4 ∨ j = 5 ∨ j = 6) with z | z | z | z | z | z | z <;> subst z <;> rfl
  · show m8 0 j = M2 0 j
    rw [e8]
    show va_cpy (M2 0) (M 0) 0 0 20 j = _
    exact cpy0 hj
/-- a SEARCH begins -/
theorem hx_seek {N : Nat} {I0 I1 : Nat → Int32} {M0 M1 : Nat → Nat → Int32} {L1 : Int64} {x1 x2 x3 x4 : Int32} {r : Int32 × (Nat → Int32) × (Nat → Nat → Int32)} {s : (Nat → Int32) × Int64 × (Nat → Nat → Int32)} (e1 : fL_seek N I0 M0 x1 x2 x3 x4 = some r) (e3 : fX12_seek N I1 L1 M1 x1 x2 x3 x4 = some s) (hs : QSR I0 M0 I1 M1) : QSR r.2.1 r.2.2 s.1 s.2.2 := by
  unfold fL_seek at e1
  unfold fX12_seek at e3
  obtain ⟨s10, g10, g⟩ := wb_b e3
  have same : fX11_seek N I0 M0 x1 x2 x3 x4 = some (.inl 1) → r.2.1 = I0 ∧ r.2.2 = M0 := by
    intro e
    rcases fr_hp e1 with ⟨k, e', h⟩ | ⟨a, e', h⟩
    · obtain ⟨c, h⟩ := wb_y h
      rw [← Option.some.inj h]
      exact ⟨rfl, rfl⟩
    · rw [e] at e'
      cases e'
  have cj : ∀ (b : Int32), (¬ b = 0 → BW x1 x2 ∧ (0 ≤ x3.toInt ∧ x3.toInt ≤ 3) ∧ 0 ≤ x4.toInt ∧ x4.toInt ≤ 1000000) → fX11_seek_J29 N x1 x2 x3 x4 I0 M0 ((20 : Int32) * x1 + x2) b = fX11_seek N I0 M0 x1 x2 x3 x4 → fX12_seek_J35 N x1 x2 x3 x4 (upd I1 0 0) L1 M1 b = some s → QSR r.2.1 r.2.2 s.1 s.2.2 := by
    intro b hb e g
    unfold fX12_seek_J35 at g
    obtain ⟨r1, f1, g⟩ := wb_b g
    rcases rt12 (J := upd I1 0 0) rfl (by decide) f1 with ⟨z, y⟩ | ⟨z, y⟩
    · subst y
      have g := wb_f (c := (1 : Int32) = 0) (by decide) g
      obtain ⟨J2, eJ2, g⟩ := wb_v g
      rw [k12_0, k12_1, k12_2, k12_3, k12_4, k12_5, k12_6] at g
      obtain ⟨-, g⟩ := wb_n g
      obtain ⟨m3, e3, g⟩ := wb_v g
      obtain ⟨-, g⟩ := wb_n g
      obtain ⟨m4, e4, g⟩ := wb_v g
      obtain ⟨-, g⟩ := wb_n g
      obtain ⟨m5, e5, g⟩ := wb_v g
      obtain ⟨-, g⟩ := wb_n g
      obtain ⟨m6, e6, g⟩ := wb_v g
      obtain ⟨-, g⟩ := wb_n g
      obtain ⟨m7, e7, g⟩ := wb_v g
      obtain ⟨-, g⟩ := wb_n g
      obtain ⟨m8, e8, g⟩ := wb_v g
      obtain ⟨-, g⟩ := wb_n g
      obtain ⟨m9, e9, g⟩ := wb_v g
      have g := Option.some.inj g
      obtain ⟨⟨b1, b2⟩, b3, b4⟩ := hb z
      have e2 := e.symm
      unfold fX11_seek_J29 at e2
      rcases fr_hp e1 with ⟨k, e', h⟩ | ⟨a, e', h⟩
      · rw [e2] at e'
        rcases nd11 e' with ⟨w, -⟩ | ⟨-, h2⟩
        · exact absurd w z
        · obtain ⟨R, hR, -⟩ := oki h2
          cases hR
      · rw [e2] at e'
        rcases nd11 e' with ⟨w, -⟩ | ⟨-, h2⟩
        · exact absurd w z
        · obtain ⟨R, hR, h2⟩ := oki h2
          have hR := Sum.inr.inj hR
          subst hR
          obtain ⟨r2, f2, h2⟩ := wb_b h2
          obtain ⟨I3, eI, h2⟩ := wb_v h2
          obtain ⟨M4, eM, h2⟩ := wb_v h2
          obtain ⟨p0, p1, p2, p3, p4, p5, p6, p7⟩ := bg8 f2
          have i3 : ∀ j, j < 7 → I3 (j + 27) = r2.1 j := by
            intro j hj
            rw [eI, wbi_in (by omega) (by omega), Nat.add_sub_cancel]
          have t20 : (20 : Int32).toInt = 20 := by decide
          have m1 := ia_mul 20 20 t20 x1 (by omega) (by omega)
          have s1 := ia_add ((20 : Int32) * x1) x2 (by omega) (by omega)
          rw [← Option.some.inj h, ← Option.some.inj h2, ← g]
          refine ⟨?_, fun _ => ⟨?_, ?_, ?_, ?_, ?_, ?_, Or.inl ⟨?_, ?_, ?_, ?_, ?_, ?_, ?_⟩⟩⟩
          · show I3 27 = J2 16
            rw [show I3 27 = r2.1 0 from i3 0 (by omega), p0, eJ2]
            rfl
          · show I3 28 = m9 18 0
            rw [show I3 28 = r2.1 1 from i3 1 (by omega), p1, e9, e8, e7, e6, e5, e4, e3]
            rfl
          · show I3 29 = m9 18 1
            rw [show I3 29 = r2.1 2 from i3 2 (by omega), p2, e9, e8, e7, e6, e5, e4, e3]
            rfl
          · show I3 30 = m9 18 2
            rw [show I3 30 = r2.1 3 from i3 3 (by omega), p3, e9, e8, e7, e6, e5, e4, e3]
            rfl
          · show 0 ≤ (I3 28).toInt ∧ (I3 28).toInt ≤ 119
            rw [show I3 28 = r2.1 1 from i3 1 (by omega), p1]
            omega
          · show 0 ≤ (I3 29).toInt ∧ (I3 29).toInt ≤ 3
            rw [show I3 29 = r2.1 2 from i3 2 (by omega), p2]
            exact b3
          · show 0 ≤ (I3 30).toInt ∧ (I3 30).toInt ≤ 1000001
            rw [show I3 30 = r2.1 3 from i3 3 (by omega), p3]
            omega
          · show I3 31 = 1000
            rw [show I3 31 = r2.1 4 from i3 4 (by omega), p4]
          · show I3 32 = 0
            rw [show I3 32 = r2.1 5 from i3 5 (by omega), p5]
          · show I3 33 = -1
            rw [show I3 33 = r2.1 6 from i3 6 (by omega), p6]
          · rw [e9, e8, e7, e6, e5, e4, e3]; rfl
          · rw [e9, e8, e7, e6, e5, e4, e3]; rfl
          · rw [e9, e8, e7, e6, e5, e4, e3]; rfl
          · rw [e9, e8, e7, e6, e5, e4, e3]; rfl
    · subst y
      have g := wb_t (c := (0 : Int32) = 0) rfl g
      have e2 := e.symm
      unfold fX11_seek_J29 at e2
      rw [z, need0] at e2
      obtain ⟨q1, q2⟩ := same e2
      rw [q1, q2, ← Option.some.inj g]
      exact hs
  rcases iw12 g10 with ⟨hb, q⟩ | ⟨hb, q⟩
  · subst q
    have g := wb_f (c := (1 : Int32) = 0) (by decide) g
    have cn : fX11_numberOf N x1 x2 = some (.inr ((20 : Int32) * x1 + x2)) := by
      rcases fr_hp e1 with ⟨k, e', h⟩ | ⟨a, e', h⟩
      · unfold fX11_seek at e'
        rcases xbi e' with ⟨k2, f, -⟩ | ⟨n, f, -⟩
        · rcases nb11 f with ⟨-, z⟩ | ⟨z, -⟩
          · cases z
          · exact absurd hb z
        · rcases nb11 f with ⟨-, z⟩ | ⟨z, -⟩
          · rw [f, z]
          · exact absurd hb z
      · unfold fX11_seek at e'
        rcases xbi e' with ⟨k2, f, -⟩ | ⟨n, f, -⟩
        · rcases nb11 f with ⟨-, z⟩ | ⟨z, -⟩
          · cases z
          · exact absurd hb z
        · rcases nb11 f with ⟨-, z⟩ | ⟨z, -⟩
          · rw [f, z]
          · exact absurd hb z
    obtain ⟨s11, g11, g⟩ := wb_b g
    have w11 : fX11_within N x3 0 3 = some s11 := by rw [wn11, ← g11, wn12]
    rcases ck_within12 0 3 (by decide) (by decide) g11 with ⟨q, c⟩ | ⟨q, c⟩
    · have g := wb_f (by rw [q]; decide) g
      obtain ⟨s12, g12, g⟩ := wb_b g
      have w12 : fX11_isDay N x4 = some s12 := by
        unfold fX11_isDay
        rw [wn11, ← wn12 (N := N), g12]
        show (if s12 &&& 1 = s12 then some s12 else none) = some s12
        rcases ck_within12 0 1000000 (by decide) (by decide) g12 with ⟨q, -⟩ | ⟨q, -⟩ <;> rw [q] <;> rfl
      rcases ck_within12 0 1000000 (by decide) (by decide) g12 with ⟨q2, c2⟩ | ⟨q2, c2⟩
      · have g := wb_f (by rw [q2]; decide) g
        refine cj 1 (fun _ => ⟨hb, c, c2⟩) ?_ g
        unfold fX11_seek
        rw [cn]
        show _ = (fX11_within N x3 0 3).bind _
        rw [w11, Option.bind_some, if_neg (by rw [q]; decide), w12, Option.bind_some, if_neg (by rw [q2]; decide)]
      · have g := wb_t q2 g
        unfold fX12_seek_J34 at g
        refine cj 0 (fun z => absurd rfl z) ?_ g
        unfold fX11_seek
        rw [cn]
        show _ = (fX11_within N x3 0 3).bind _
        rw [w11, Option.bind_some, if_neg (by rw [q]; decide), w12, Option.bind_some, if_pos q2]
        rfl
    · have g := wb_t q g
      unfold fX12_seek_J34 at g
      refine cj 0 (fun z => absurd rfl z) ?_ g
      unfold fX11_seek
      rw [cn]
      show _ = (fX11_within N x3 0 3).bind _
      rw [w11, Option.bind_some, if_pos q]
      rfl
  · subst q
    have g := Option.some.inj (wb_t (c := (0 : Int32) = 0) rfl g)
    have e2 : fX11_seek N I0 M0 x1 x2 x3 x4 = some (.inl 1) := by
      rcases fr_hp e1 with ⟨k, e', h⟩ | ⟨a, e', h⟩
      · have e'' := e'
        unfold fX11_seek at e''
        rcases xbi e'' with ⟨k2, f, f2⟩ | ⟨n, f, -⟩
        · rcases nb11 f with ⟨z, -⟩ | ⟨-, z⟩
          · exact absurd z hb
          · rw [e', f2, Sum.inl.inj z]
        · rcases nb11 f with ⟨z, -⟩ | ⟨-, z⟩
          · exact absurd z hb
          · cases z
      · unfold fX11_seek at e'
        rcases xbi e' with ⟨k2, f, f2⟩ | ⟨n, f, -⟩
        · cases f2
        · rcases nb11 f with ⟨z, -⟩ | ⟨-, z⟩
          · exact absurd z hb
          · cases z
    obtain ⟨q1, q2⟩ := same e2
    rw [q1, q2, ← g]
    exact hs
/-! LEAVES -/
/-! how many -/
theorem an_lot {N : Nat} (hN : 3000000000 ≤ N) {I0 I1 : Nat → Int32} {M0 M1 : Nat → Nat → Int32} {L1 : Int64} {x1 x2 x3 : Int32} {o : Nat → Int64} {r : Int32 × (Nat → Int32) × (Nat → Nat → Int32) × (Nat → Int64)} {s : Int32 × (Nat → Int32) × Int64 × (Nat → Nat → Int32)} (k0 : KX11 I0 M0) (k1 : KX12 I1 M1) (e1 : fL_lot N I0 M0 x1 x2 x3 o = some r) (e3 : fX12_lot N I1 L1 M1 x1 x2 x3 = some s) (hr : RR I0 M0 I1 M1) : s.2.1 0 = r.1 ∧ (r.1 = 0 → r.2.2.2 0 = s.1.toInt64) := by
  unfold fL_lot at e1
  have hr0 := hr.j0 0
  have u1 : (upd I1 0 0 1).toInt = (I1 1).toInt := rfl
  have ht := hr.2.2
  have er := hr.2.1
  have h91 := congrArg Int32.toInt ht.1
  have u2 : (((1 : Int32), upd I1 0 0, L1, M1).snd.fst 1).toInt = (I1 1).toInt := rfl
  have i9 := k0.i9
  have key : ∀ q, fX11_lot N I0 M0 x1 x2 x3 = some q → (q = .inl 1 ∧ s.2.1 0 = 1) ∨ ∃ a, q = .inr a ∧ s.2.1 0 = 0 ∧ a = s.1 := by
    intro q h
    unfold fX11_lot at h
    rcases xbi h with ⟨k2, h13, h⟩ | ⟨n4, h13, h⟩
    · rcases nb11 h13 with ⟨-, z6⟩ | ⟨cb5, z6⟩
      · cases z6
      · have z6 := Sum.inl.inj z6
        rw [z6] at h
        unfold BW at cb5
        have g := e3
        unfold fX12_lot at g
        obtain ⟨r7, e8, g⟩ := wb_b g
        rcases iw12 e8 with ⟨c10, q9⟩ | ⟨c10, q9⟩
        · subst q9
          unfold BW at c10
          have g := wb_f (c := (1 : Int32) = 0) (by decide) g
          rcases ifr g with ⟨c11, g⟩ | ⟨c11, g⟩
          · have c11 := (eq32 rfl (by decide : (0 : Int32).toInt = 0)).mp c11
            unfold fX12_lot_J19 at g
            unfold fX12_lot_J24 at g
            obtain ⟨r12, e13, g⟩ := wb_b g
            rcases rt12 rfl (by decide) e13 with ⟨c15, q14⟩ | ⟨c15, q14⟩
            · subst q14
              have g := wb_f (c := (1 : Int32) = 0) (by decide) g
              exfalso
              omega
            · exact absurd c15 (show ¬ (1 : Int32) = 0 by decide)
          · have c11 : ¬ _ := fun z => c11 ((eq32 rfl (by decide : (0 : Int32).toInt = 0)).mpr z)
            rcases ifr g with ⟨c16, g⟩ | ⟨c16, g⟩
            · have c16 := (eq32 rfl (by decide : (1 : Int32).toInt = 1)).mp c16
              unfold fX12_lot_J19 at g
              unfold fX12_lot_J24 at g
              obtain ⟨r17, e18, g⟩ := wb_b g
              rcases rt12 rfl (by decide) e18 with ⟨c20, q19⟩ | ⟨c20, q19⟩
              · subst q19
                have g := wb_f (c := (1 : Int32) = 0) (by decide) g
                exfalso
                omega
              · exact absurd c20 (show ¬ (1 : Int32) = 0 by decide)
            · have c16 : ¬ _ := fun z => c16 ((eq32 rfl (by decide : (1 : Int32).toInt = 1)).mpr z)
              unfold fX12_lot_J24 at g
              obtain ⟨r21, e22, g⟩ := wb_b g
              rcases rt12 rfl (by decide) e22 with ⟨c24, q23⟩ | ⟨c24, q23⟩
              · exact absurd rfl c24
              · subst q23
                have g := wb_t (c := (0 : Int32) = 0) rfl g
                have g := Option.some.inj g
                subst g
                exact Or.inl ⟨h, rfl⟩
        · subst q9
          unfold BW at c10
          have g := wb_t (c := (0 : Int32) = 0) rfl g
          have g := Option.some.inj g
          subst g
          exact Or.inl ⟨h, rfl⟩
    · rcases nb11 h13 with ⟨cb5, z6⟩ | ⟨-, z6⟩
      · have z6 := Sum.inr.inj z6
        rw [z6] at h
        unfold BW at cb5
        obtain ⟨r25, e26, h⟩ := wb_b h
        rcases ck_within (0) (1) (by decide) (by decide) e26 with ⟨q27, c28⟩ | ⟨q27, c28⟩
        · rcases nd11 h with ⟨c29, h⟩ | ⟨c29, h⟩
          · exact absurd c29 (by rw [q27]; decide)
          · obtain ⟨a, ha, h⟩ := oki h
            have g := e3
            unfold fX12_lot at g
            obtain ⟨r30, e31, g⟩ := wb_b g
            rcases iw12 e31 with ⟨c33, q32⟩ | ⟨c33, q32⟩
            · subst q32
              unfold BW at c33
              have g := wb_f (c := (1 : Int32) = 0) (by decide) g
              rcases ifr g with ⟨c34, g⟩ | ⟨c34, g⟩
              · have c34 := (eq32 rfl (by decide : (0 : Int32).toInt = 0)).mp c34
                unfold fX12_lot_J19 at g
                unfold fX12_lot_J24 at g
                obtain ⟨r35, e36, g⟩ := wb_b g
                rcases rt12 rfl (by decide) e36 with ⟨c38, q37⟩ | ⟨c38, q37⟩
                · subst q37
                  have g := wb_f (c := (1 : Int32) = 0) (by decide) g
                  obtain ⟨v5, ev5, g⟩ := wb_v g
                  rw [ev5] at g
                  clear ev5 v5
                  obtain ⟨b0, g0, g⟩ := wb_b g
                  obtain ⟨b1, g1, g⟩ := wb_b g
                  obtain ⟨b7, g7, g⟩ := wb_b g
                  obtain ⟨a4, f4, h⟩ := wb_b h
                  obtain ⟨s0, m0, r0, f0, f1, f7, hl⟩ := lt11 f4
                  have e0 := at_eq er f0 g0
                  have e1' := at_eq er f1 g1
                  have e7 := at_eq er f7 g7
                  rw [← e0, ← e1', ← e7] at g
                  rw [← e0] at g0
                  rw [← e1'] at g1
                  rw [← e7] at g7
                  rcases hl with ⟨hn, ha4⟩ | ⟨⟨y1, y2, y3⟩, hv⟩
                  · have h2 : a = -1 := by
                      rcases ifr h with ⟨c9, h⟩ | ⟨c9, h⟩
                      · exact (Option.some.inj h).symm.trans ha4
                      · exact (Option.some.inj (wb_t ha4 h)).symm.trans ha4
                    rw [h2] at ha
                    rcases ifr g with ⟨k, g⟩ | ⟨k, g⟩
                    · have g := Option.some.inj g
                      subst g
                      exact Or.inr ⟨_, ha, rfl, rfl⟩
                    · rcases ifr g with ⟨k2, g⟩ | ⟨k2, g⟩
                      · have g := Option.some.inj g
                        subst g
                        exact Or.inr ⟨_, ha, rfl, rfl⟩
                      · rcases ifr g with ⟨k3, g⟩ | ⟨k3, g⟩
                        · have g := Option.some.inj g
                          subst g
                          exact Or.inr ⟨_, ha, rfl, rfl⟩
                        · exfalso
                          rcases hn with z | z | z
                          · exact k z
                          · exact k2 z
                          · exact k3 z
                  · have g := wb_f y3 (wb_f y2 (wb_f y1 g))
                    have rs := (dg_rg k1.een k1.m7 (by omega) (by omega) (by decide) g0).2 y1
                    have rm := (dg_rg k1.een k1.m7 (by omega) (by omega) (by decide) g1).2 y2
                    have rr := (dg_rg k1.een k1.m7 (by omega) (by omega) (by decide) g7).2 y3
                    have lv := hv rs rm rr
                    have l0 := lot_rg r0.toInt s0.toInt m0.toInt
                    rcases ifr h with ⟨c9, h⟩ | ⟨c9, h⟩
                    · have g := wb_f (c := x3 = 1) (by rw [c9]; decide) g
                      obtain ⟨v, hv2, g⟩ := lt12 rs rm rr g
                      unfold fX12_lot_J165 at g
                      have g := Option.some.inj (wb_t c9 g)
                      have h := Option.some.inj h
                      subst h
                      subst g
                      exact Or.inr ⟨_, ha, rfl, t32 (by rw [lv]; exact hv2.symm)⟩
                    · have h := wb_f (fun z => by rw [z, nim1] at lv; omega) h
                      have c10 : ¬ _ := fun z => c9 ((eq32 rfl ni0).mpr z)
                      have x31 : x3 = 1 := t32 (by rw [ni1]; omega)
                      have g := wb_t x31 g
                      obtain ⟨b8, g8, g⟩ := wb_b g
                      obtain ⟨a8, f8, h⟩ := wb_b h
                      have e8 := at_eq er f8 g8
                      rw [← e8] at g g8
                      rcases ifr h with ⟨k, h⟩ | ⟨k, h⟩
                      · have g := Option.some.inj (wb_t k g)
                        have h := Option.some.inj h
                        subst h
                        subst g
                        exact Or.inr ⟨_, ha, rfl, rfl⟩
                      · have g := wb_f k g
                        obtain ⟨v, hv2, g⟩ := lt12 rs rm rr g
                        unfold fX12_lot_J165 at g
                        have g := wb_f c9 g
                        obtain ⟨b9, g9, g⟩ := wb_b g
                        have e9 : b9 = a8 := Option.some.inj (g9.symm.trans g8)
                        rw [e9] at g
                        obtain ⟨b10, g10, g⟩ := wb_b g
                        obtain ⟨a10, f10, h⟩ := wb_b h
                        have h := Option.some.inj h
                        have g := Option.some.inj g
                        subst h
                        subst g
                        have ev : v = a4 := t32 (by rw [lv]; exact hv2)
                        rw [ev] at g10
                        have r8 := (dg_rg k1.een k1.m7 (by omega) (by omega) (by decide) g8).2 k
                        exact Or.inr ⟨_, ha, rfl, (cst_eq hr0.2.2 rfl ⟨r8.1, by omega⟩ ⟨by omega, by omega⟩ f10 g10).1⟩
                · exact absurd c38 (show ¬ (1 : Int32) = 0 by decide)
              · have c34 : ¬ _ := fun z => c34 ((eq32 rfl (by decide : (0 : Int32).toInt = 0)).mpr z)
                rcases ifr g with ⟨c39, g⟩ | ⟨c39, g⟩
                · have c39 := (eq32 rfl (by decide : (1 : Int32).toInt = 1)).mp c39
                  unfold fX12_lot_J19 at g
                  unfold fX12_lot_J24 at g
                  obtain ⟨r40, e41, g⟩ := wb_b g
                  rcases rt12 rfl (by decide) e41 with ⟨c43, q42⟩ | ⟨c43, q42⟩
                  · subst q42
                    have g := wb_f (c := (1 : Int32) = 0) (by decide) g
                    obtain ⟨v5, ev5, g⟩ := wb_v g
                    rw [ev5] at g
                    clear ev5 v5
                    obtain ⟨b0, g0, g⟩ := wb_b g
                    obtain ⟨b1, g1, g⟩ := wb_b g
                    obtain ⟨b7, g7, g⟩ := wb_b g
                    obtain ⟨a4, f4, h⟩ := wb_b h
                    obtain ⟨s0, m0, r0, f0, f1, f7, hl⟩ := lt11 f4
                    have e0 := at_eq er f0 g0
                    have e1' := at_eq er f1 g1
                    have e7 := at_eq er f7 g7
                    rw [← e0, ← e1', ← e7] at g
                    rw [← e0] at g0
                    rw [← e1'] at g1
                    rw [← e7] at g7
                    rcases hl with ⟨hn, ha4⟩ | ⟨⟨y1, y2, y3⟩, hv⟩
                    · have h2 : a = -1 := by
                        rcases ifr h with ⟨c9, h⟩ | ⟨c9, h⟩
                        · exact (Option.some.inj h).symm.trans ha4
                        · exact (Option.some.inj (wb_t ha4 h)).symm.trans ha4
                      rw [h2] at ha
                      rcases ifr g with ⟨k, g⟩ | ⟨k, g⟩
                      · have g := Option.some.inj g
                        subst g
                        exact Or.inr ⟨_, ha, rfl, rfl⟩
                      · rcases ifr g with ⟨k2, g⟩ | ⟨k2, g⟩
                        · have g := Option.some.inj g
                          subst g
                          exact Or.inr ⟨_, ha, rfl, rfl⟩
                        · rcases ifr g with ⟨k3, g⟩ | ⟨k3, g⟩
                          · have g := Option.some.inj g
                            subst g
                            exact Or.inr ⟨_, ha, rfl, rfl⟩
                          · exfalso
                            rcases hn with z | z | z
                            · exact k z
                            · exact k2 z
                            · exact k3 z
                    · have g := wb_f y3 (wb_f y2 (wb_f y1 g))
                      have rs := (dg_rg k1.een k1.m7 (by omega) (by omega) (by decide) g0).2 y1
                      have rm := (dg_rg k1.een k1.m7 (by omega) (by omega) (by decide) g1).2 y2
                      have rr := (dg_rg k1.een k1.m7 (by omega) (by omega) (by decide) g7).2 y3
                      have lv := hv rs rm rr
                      have l0 := lot_rg r0.toInt s0.toInt m0.toInt
                      rcases ifr h with ⟨c9, h⟩ | ⟨c9, h⟩
                      · have g := wb_f (c := x3 = 1) (by rw [c9]; decide) g
                        obtain ⟨v, hv2, g⟩ := lt12 rs rm rr g
                        unfold fX12_lot_J165 at g
                        have g := Option.some.inj (wb_t c9 g)
                        have h := Option.some.inj h
                        subst h
                        subst g
                        exact Or.inr ⟨_, ha, rfl, t32 (by rw [lv]; exact hv2.symm)⟩
                      · have h := wb_f (fun z => by rw [z, nim1] at lv; omega) h
                        have c10 : ¬ _ := fun z => c9 ((eq32 rfl ni0).mpr z)
                        have x31 : x3 = 1 := t32 (by rw [ni1]; omega)
                        have g := wb_t x31 g
                        obtain ⟨b8, g8, g⟩ := wb_b g
                        obtain ⟨a8, f8, h⟩ := wb_b h
                        have e8 := at_eq er f8 g8
                        rw [← e8] at g g8
                        rcases ifr h with ⟨k, h⟩ | ⟨k, h⟩
                        · have g := Option.some.inj (wb_t k g)
                          have h := Option.some.inj h
                          subst h
                          subst g
                          exact Or.inr ⟨_, ha, rfl, rfl⟩
                        · have g := wb_f k g
                          obtain ⟨v, hv2, g⟩ := lt12 rs rm rr g
                          unfold fX12_lot_J165 at g
                          have g := wb_f c9 g
                          obtain ⟨b9, g9, g⟩ := wb_b g
                          have e9 : b9 = a8 := Option.some.inj (g9.symm.trans g8)
                          rw [e9] at g
                          obtain ⟨b10, g10, g⟩ := wb_b g
                          obtain ⟨a10, f10, h⟩ := wb_b h
                          have h := Option.some.inj h
                          have g := Option.some.inj g
                          subst h
                          subst g
                          have ev : v = a4 := t32 (by rw [lv]; exact hv2)
                          rw [ev] at g10
                          have r8 := (dg_rg k1.een k1.m7 (by omega) (by omega) (by decide) g8).2 k
                          exact Or.inr ⟨_, ha, rfl, (cst_eq hr0.2.2 rfl ⟨r8.1, by omega⟩ ⟨by omega, by omega⟩ f10 g10).1⟩
                  · exact absurd c43 (show ¬ (1 : Int32) = 0 by decide)
                · have c39 : ¬ _ := fun z => c39 ((eq32 rfl (by decide : (1 : Int32).toInt = 1)).mpr z)
                  unfold fX12_lot_J24 at g
                  obtain ⟨r44, e45, g⟩ := wb_b g
                  rcases rt12 rfl (by decide) e45 with ⟨c47, q46⟩ | ⟨c47, q46⟩
                  · exact absurd rfl c47
                  · subst q46
                    have g := wb_t (c := (0 : Int32) = 0) rfl g
                    have g := Option.some.inj g
                    subst g
                    exfalso
                    omega
            · subst q32
              unfold BW at c33
              have g := wb_t (c := (0 : Int32) = 0) rfl g
              have g := Option.some.inj g
              subst g
              exfalso
              omega
        · rcases nd11 h with ⟨c48, h⟩ | ⟨c48, h⟩
          · have g := e3
            unfold fX12_lot at g
            obtain ⟨r49, e50, g⟩ := wb_b g
            rcases iw12 e50 with ⟨c52, q51⟩ | ⟨c52, q51⟩
            · subst q51
              unfold BW at c52
              have g := wb_f (c := (1 : Int32) = 0) (by decide) g
              rcases ifr g with ⟨c53, g⟩ | ⟨c53, g⟩
              · have c53 := (eq32 rfl (by decide : (0 : Int32).toInt = 0)).mp c53
                unfold fX12_lot_J19 at g
                unfold fX12_lot_J24 at g
                obtain ⟨r54, e55, g⟩ := wb_b g
                rcases rt12 rfl (by decide) e55 with ⟨c57, q56⟩ | ⟨c57, q56⟩
                · subst q56
                  have g := wb_f (c := (1 : Int32) = 0) (by decide) g
                  exfalso
                  omega
                · exact absurd c57 (show ¬ (1 : Int32) = 0 by decide)
              · have c53 : ¬ _ := fun z => c53 ((eq32 rfl (by decide : (0 : Int32).toInt = 0)).mpr z)
                rcases ifr g with ⟨c58, g⟩ | ⟨c58, g⟩
                · have c58 := (eq32 rfl (by decide : (1 : Int32).toInt = 1)).mp c58
                  unfold fX12_lot_J19 at g
                  unfold fX12_lot_J24 at g
                  obtain ⟨r59, e60, g⟩ := wb_b g
                  rcases rt12 rfl (by decide) e60 with ⟨c62, q61⟩ | ⟨c62, q61⟩
                  · subst q61
                    have g := wb_f (c := (1 : Int32) = 0) (by decide) g
                    exfalso
                    omega
                  · exact absurd c62 (show ¬ (1 : Int32) = 0 by decide)
                · have c58 : ¬ _ := fun z => c58 ((eq32 rfl (by decide : (1 : Int32).toInt = 1)).mpr z)
                  unfold fX12_lot_J24 at g
                  obtain ⟨r63, e64, g⟩ := wb_b g
                  rcases rt12 rfl (by decide) e64 with ⟨c66, q65⟩ | ⟨c66, q65⟩
                  · exact absurd rfl c66
                  · subst q65
                    have g := wb_t (c := (0 : Int32) = 0) rfl g
                    have g := Option.some.inj g
                    subst g
                    exact Or.inl ⟨h, rfl⟩
            · subst q51
              unfold BW at c52
              have g := wb_t (c := (0 : Int32) = 0) rfl g
              have g := Option.some.inj g
              subst g
              exact Or.inl ⟨h, rfl⟩
          · exact absurd q27 c48
      · cases z6
  exact fin_1n e1 key

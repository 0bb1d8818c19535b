theorem i64_of (x : Int32) : x.toInt64.toInt = x.toInt := Int32.toInt_toInt64 x
theorem i32_of {x : Int64} (h0 : -2147483648 ≤ x.toInt) (h1 : x.toInt ≤ 2147483647) : x.toInt32.toInt = x.toInt := by
  rw [Int64.toInt_toInt32]
  exact Int.bmod_eq_of_le (by omega) (by omega)
theorem rem32 {d p : Int32} (hd : 0 ≤ d.toInt) (hp : 1 ≤ p.toInt) : (d - d / p * p).toInt = d.toInt % p.toInt := ia_rem d p p.toInt rfl (by omega) hd
/-- the class's PLACE -/
theorem pl11 {N : Nat} {I : Nat → Int32} {M : Nat → Nat → Int32} {s k d r : Int32} (hd : 0 ≤ d.toInt) (hd2 : d.toInt ≤ 1000001) (hr : HRg (M 0 ((7 : Int32) * s + k).toNatClampNeg) (M 1 ((7 : Int32) * s + k).toNatClampNeg) (M 2 ((7 : Int32) * s + k).toNatClampNeg) (M 3 ((7 : Int32) * s + k).toNatClampNeg)) (h : fX5_placeOn N I M s k d = some r) : r.toInt = plc (M 0 ((7 : Int32) * s + k).toNatClampNeg).toInt (M 1 ((7 : Int32) * s + k).toNatClampNeg).toInt (M 2 ((7 : Int32) * s + k).toNatClampNeg).toInt (M 3 ((7 : Int32) * s + k).toNatClampNeg).toInt d.toInt := by
  unfold fX5_placeOn at h
  obtain ⟨v1, e1, h⟩ := wb_v h
  rw [← e1] at hr ⊢
  generalize hA : M 0 v1.toNatClampNeg = a at *
  generalize hG : M 1 v1.toNatClampNeg = g at *
  generalize hW : M 2 v1.toNatClampNeg = w at *
  generalize hP : M 3 v1.toNatClampNeg = p at *
  obtain ⟨⟨a0, a1⟩, ⟨g0, g1⟩, ⟨w0, w1⟩, p0, p1⟩ := hr
  obtain ⟨-, h⟩ := wb_n h
  obtain ⟨v2, e2, h⟩ := wb_v h
  obtain ⟨-, h⟩ := wb_n h
  obtain ⟨r3, e3, h⟩ := wb_b h
  obtain ⟨r4, e4, h⟩ := wb_b h
  have h := Option.some.inj h
  obtain ⟨q, eq, q1, q2, q3, q4, q5, q6⟩ := sw_rg (d := d.toInt) w0 w1 p0 p1
  -- gone
  have gd0 : 0 ≤ g.toInt * d.toInt := Int.mul_nonneg g0 hd
  have gd1 : g.toInt * d.toInt ≤ 2000000 * 1000001 := Int.mul_le_mul g1 hd2 hd (by omega)
  have n1000 : (1000 : Int64).toInt = 1000 := by decide
  have m1 : (g.toInt64 * d.toInt64).toInt = g.toInt * d.toInt := by
    rw [la_mul _ _ (by rw [i64_of, i64_of]; omega) (by rw [i64_of, i64_of]; omega), i64_of, i64_of]
  have t2 : v2.toInt = g.toInt * d.toInt / 1000 := by
    rw [e2, (la_div _ 1000 (by rw [n1000]; omega) (by rw [m1]; omega) (by rw [m1]; omega)).1 (by rw [m1]; omega), m1, n1000]
  -- swing
  have t3 : r3.toInt = q * w.toInt / p.toInt := by
    unfold fX5_swingOn at e3
    obtain ⟨-, e3⟩ := wb_n e3
    obtain ⟨u1, f1, e3⟩ := wb_v e3
    obtain ⟨-, e3⟩ := wb_n e3
    rw [hP] at f1
    rw [hW] at e3
    subst f1
    rcases ifr e3 with ⟨c, e3⟩ | ⟨c, e3⟩
    · have e3 := Option.some.inj e3
      rw [← e3, c, z64, show (0 : Int32).toInt = 0 from by decide, Int.mul_zero, Int.zero_ediv]
    · have e3 := wb_t ((le32 (by decide : (1 : Int32).toInt = 1) rfl).mpr p0) e3
      obtain ⟨-, e3⟩ := wb_n e3
      obtain ⟨u2, f2, e3⟩ := wb_v e3
      obtain ⟨u3, f3, e3⟩ := wb_v e3
      obtain ⟨-, e3⟩ := wb_n e3
      obtain ⟨u4, f4, e3⟩ := wb_b e3
      have e3 := Option.some.inj e3
      subst e3
      have tu2 : u2.toInt = d.toInt % u1.toInt := by rw [f2]; exact rem32 hd p0
      have r0 := Int.emod_nonneg d.toInt (by omega : u1.toInt ≠ 0)
      have r1 := Int.emod_lt_of_pos d.toInt (by omega : 0 < u1.toInt)
      have n2 : (2 : Int32).toInt = 2 := by decide
      have x1 := ia_mul 2 2 n2 u2 (by omega) (by omega)
      have x2 := ia_sub ((2 : Int32) * u2) u1 (by omega) (by omega)
      have n0 : (0 : Int32).toInt = 0 := by decide
      have x3 := ia_sub 0 ((2 : Int32) * u2 - u1) (by omega) (by omega)
      have tq : u3.toInt = q := by
        rw [f3, eq]
        have l2 : (2 : Int64).toInt = 2 := by decide
        by_cases z : 0 ≤ 2 * (d.toInt % u1.toInt) - u1.toInt
        · rw [if_pos z, if_pos ((le32 n0 x2).mpr (by omega))]
          rw [la_sub _ _ (by rw [la_mul _ _ (by rw [l2, i64_of]; omega) (by rw [l2, i64_of]; omega), l2, i64_of, i64_of]; omega) (by rw [la_mul _ _ (by rw [l2, i64_of]; omega) (by rw [l2, i64_of]; omega), l2, i64_of, i64_of]; omega), la_mul _ _ (by rw [l2, i64_of]; omega) (by rw [l2, i64_of]; omega), l2, i64_of, i64_of]
          omega
        · rw [if_neg z, if_neg (fun y => z (by have := (le32 n0 x2).mp y; omega))]
          rw [la_sub _ _ (by rw [la_mul _ _ (by rw [l2, i64_of]; omega) (by rw [l2, i64_of]; omega), l2, i64_of, i64_of]; omega) (by rw [la_mul _ _ (by rw [l2, i64_of]; omega) (by rw [l2, i64_of]; omega), l2, i64_of, i64_of]; omega), la_mul _ _ (by rw [l2, i64_of]; omega) (by rw [l2, i64_of]; omega), l2, i64_of, i64_of]
          omega
      have m3 : (u3 * w.toInt64).toInt = q * w.toInt := by
        rw [la_mul _ _ (by rw [tq, i64_of]; omega) (by rw [tq, i64_of]; omega), tq, i64_of]
      rw [fdv64 (by rw [i64_of]; omega) (by rw [i64_of]; omega) (by rw [m3]; omega) (by rw [m3]; omega) f4, m3, i64_of]
  have gn0 := Int.ediv_nonneg gd0 (by omega : (0 : Int) ≤ 1000)
  have gn1 := Int.ediv_le_self 1000 gd0
  have n21 : (21600 : Int64).toInt = 21600 := by decide
  have s1 := la_add a.toInt64 v2 (by rw [i64_of]; omega) (by rw [i64_of]; omega)
  rw [i64_of] at s1
  have s2 := la_add (a.toInt64 + v2) r3 (by omega) (by omega)
  have t4 := fmd64 (by rw [n21]; omega) (by rw [n21]; omega) (by omega) (by omega) e4
  rw [n21] at t4
  have b0 := Int.emod_nonneg ((a.toInt64 + v2 + r3).toInt) (by omega : (21600 : Int) ≠ 0)
  have b1 := Int.emod_lt_of_pos ((a.toInt64 + v2 + r3).toInt) (by omega : (0 : Int) < 21600)
  rw [← h, i32_of (by omega) (by omega), t4, s2, s1, t2, t3, eq]
  rfl
/-- the reference's PLACE -/
theorem pl12 {N : Nat} {J : Nat → Int32} {L : Int64} {K : Nat → Nat → Int32} {s k d r : Int32} (hd : 0 ≤ d.toInt) (hd2 : d.toInt ≤ 1000001) (hr : HRg (K 0 ((7 : Int32) * s + k).toNatClampNeg) (K 1 ((7 : Int32) * s + k).toNatClampNeg) (K 2 ((7 : Int32) * s + k).toNatClampNeg) (K 3 ((7 : Int32) * s + k).toNatClampNeg)) (h : fX12_placeOn N J L K s k d = some r) : r.toInt = plc (K 0 ((7 : Int32) * s + k).toNatClampNeg).toInt (K 1 ((7 : Int32) * s + k).toNatClampNeg).toInt (K 2 ((7 : Int32) * s + k).toNatClampNeg).toInt (K 3 ((7 : Int32) * s + k).toNatClampNeg).toInt d.toInt := by
  unfold fX12_placeOn at h
  obtain ⟨v4, e4, h⟩ := wb_v h
  rw [← e4] at hr ⊢
  obtain ⟨-, h⟩ := wb_n h
  obtain ⟨-, h⟩ := wb_n h
  obtain ⟨v5, e5, h⟩ := wb_v h
  obtain ⟨-, h⟩ := wb_n h
  obtain ⟨v6, e6, h⟩ := wb_v h
  obtain ⟨-, h⟩ := wb_n h
  obtain ⟨-, h⟩ := wb_n h
  obtain ⟨⟨a0, a1⟩, ⟨g0, g1⟩, ⟨w0, w1⟩, p0, p1⟩ := hr
  obtain ⟨q, eq, q1, q2, q3, q4, q5, q6⟩ := sw_rg (d := d.toInt) w0 w1 p0 p1
  have r0 := Int.emod_nonneg d.toInt (by omega : (K 3 v4.toNatClampNeg).toInt ≠ 0)
  have r1 := Int.emod_lt_of_pos d.toInt (by omega : 0 < (K 3 v4.toNatClampNeg).toInt)
  have l2 : (2 : Int64).toInt = 2 := by decide
  have t5 : v5.toInt = d.toInt % (K 3 v4.toNatClampNeg).toInt := by
    rw [e5, i64_of]; exact rem32 hd p0
  have t6 : v6.toInt = 2 * (d.toInt % (K 3 v4.toNatClampNeg).toInt) - (K 3 v4.toNatClampNeg).toInt := by
    have x := la_mul 2 v5 (by rw [l2]; omega) (by rw [l2]; omega)
    rw [e6, la_sub _ _ (by rw [x, l2, i64_of]; omega) (by rw [x, l2, i64_of]; omega), x, l2, i64_of, t5]
  have gd0 : 0 ≤ (K 1 v4.toNatClampNeg).toInt * d.toInt := Int.mul_nonneg g0 hd
  have gd1 : (K 1 v4.toNatClampNeg).toInt * d.toInt ≤ 2000000 * 1000001 := Int.mul_le_mul g1 hd2 hd (by omega)
  have n1000 : (1000 : Int64).toInt = 1000 := by decide
  have m1 : ((K 1 v4.toNatClampNeg).toInt64 * d.toInt64).toInt = (K 1 v4.toNatClampNeg).toInt * d.toInt := by
    rw [la_mul _ _ (by rw [i64_of, i64_of]; omega) (by rw [i64_of, i64_of]; omega), i64_of, i64_of]
  have t2 : ((K 1 v4.toNatClampNeg).toInt64 * d.toInt64 / 1000).toInt = (K 1 v4.toNatClampNeg).toInt * d.toInt / 1000 := by
    rw [(la_div _ 1000 (by rw [n1000]; omega) (by rw [m1]; omega) (by rw [m1]; omega)).1 (by rw [m1]; omega), m1, n1000]
  have gn0 := Int.ediv_nonneg gd0 (by omega : (0 : Int) ≤ 1000)
  have gn1 := Int.ediv_le_self 1000 gd0
  have s1 := la_add (K 0 v4.toNatClampNeg).toInt64 ((K 1 v4.toNatClampNeg).toInt64 * d.toInt64 / 1000) (by rw [i64_of]; omega) (by rw [i64_of]; omega)
  rw [i64_of, t2] at s1
  have key : ∀ z : Int64, z.toInt = (if 0 ≤ 2 * (d.toInt % (K 3 v4.toNatClampNeg).toInt) - (K 3 v4.toNatClampNeg).toInt then 2 * (d.toInt % (K 3 v4.toNatClampNeg).toInt) - (K 3 v4.toNatClampNeg).toInt else -(2 * (d.toInt % (K 3 v4.toNatClampNeg).toInt) - (K 3 v4.toNatClampNeg).toInt)) → fX12_placeOn_J79 N J L K s k d v4 z (2 : Int64) ((K 0 v4.toNatClampNeg).toInt64 + ((K 1 v4.toNatClampNeg).toInt64 * d.toInt64 / 1000)) = some r → r.toInt = plc (K 0 v4.toNatClampNeg).toInt (K 1 v4.toNatClampNeg).toInt (K 2 v4.toNatClampNeg).toInt (K 3 v4.toNatClampNeg).toInt d.toInt := by
    intro z ez h
    unfold fX12_placeOn_J79 at h
    obtain ⟨-, h⟩ := wb_n h
    obtain ⟨-, h⟩ := wb_n h
    obtain ⟨-, h⟩ := wb_n h
    obtain ⟨u1, f1, h⟩ := wb_b h
    obtain ⟨u2, f2, h⟩ := wb_v h
    obtain ⟨u3, f3, h⟩ := wb_v h
    rw [← ez] at eq
    have x1 := la_mul 2 z (by rw [l2]; omega) (by rw [l2]; omega)
    rw [l2] at x1
    have x2 := la_sub ((2 : Int64) * z) (K 3 v4.toNatClampNeg).toInt64 (by rw [i64_of]; omega) (by rw [i64_of]; omega)
    rw [i64_of] at x2
    have x3 := la_mul ((2 : Int64) * z - (K 3 v4.toNatClampNeg).toInt64) (K 2 v4.toNatClampNeg).toInt64 (by rw [x2, x1, i64_of, ← eq]; omega) (by rw [x2, x1, i64_of, ← eq]; omega)
    rw [x2, x1, i64_of, ← eq] at x3
    have t1 := flr64 (by rw [i64_of]; omega) (by rw [i64_of]; omega) (by rw [x3]; omega) (by rw [x3]; omega) f1
    rw [x3, i64_of] at t1
    have s2 := la_add ((K 0 v4.toNatClampNeg).toInt64 + ((K 1 v4.toNatClampNeg).toInt64 * d.toInt64 / 1000)) u1 (by rw [s1, t1]; omega) (by rw [s1, t1]; omega)
    rw [s1, t1, ← f2] at s2
    have n21 : (21600 : Int64).toInt = 21600 := by decide
    have n21' : (21600 : Int32).toInt = 21600 := by decide
    have rr := la_rem u2 21600 (by rw [n21]; omega) (by rw [n21]; omega) (by omega) (by omega)
    rw [n21] at rr
    have ep : plc (K 0 v4.toNatClampNeg).toInt (K 1 v4.toNatClampNeg).toInt (K 2 v4.toNatClampNeg).toInt (K 3 v4.toNatClampNeg).toInt d.toInt = u2.toInt % 21600 := by
      unfold plc
      rw [← ez, ← eq, s2]
    rw [ep]
    rcases Int.lt_or_le u2.toInt 0 with c | c
    · have nd := ndv c (by omega : (0 : Int) < 21600)
      have b0 := Int.emod_nonneg (-u2.toInt) (by omega : (21600 : Int) ≠ 0)
      have b1 := Int.emod_lt_of_pos (-u2.toInt) (by omega : (0 : Int) < 21600)
      have t3 : u3.toInt = -((-u2.toInt) % 21600) := by
        rw [f3, i32_of (by rw [rr.2 c]; omega) (by rw [rr.2 c]; omega), rr.2 c]
      rcases ifr h with ⟨c2, h⟩ | ⟨c2, h⟩
      · have c2 := (le32 (by decide : (0 : Int32).toInt = 0) rfl).mp c2
        have h := Option.some.inj h
        rw [← h, (nd.1 (by omega)).2]
        omega
      · have c2 : ¬ _ := fun y => c2 ((le32 (by decide : (0 : Int32).toInt = 0) rfl).mpr y)
        have h := Option.some.inj h
        rw [← h, ia_add _ _ (by omega) (by omega), n21', (nd.2 (by omega)).2]
        omega
    · have b0 := Int.emod_nonneg u2.toInt (by omega : (21600 : Int) ≠ 0)
      have b1 := Int.emod_lt_of_pos u2.toInt (by omega : (0 : Int) < 21600)
      have t3 : u3.toInt = u2.toInt % 21600 := by
        rw [f3, i32_of (by rw [rr.1 c]; omega) (by rw [rr.1 c]; omega), rr.1 c]
      have h := wb_t ((le32 (by decide : (0 : Int32).toInt = 0) rfl).mpr (by omega)) h
      have h := Option.some.inj h
      rw [← h]; exact t3
  rcases ifr h with ⟨c, h⟩ | ⟨c, h⟩
  · have c := lgc_ge.mp c
    rw [z64, t6] at c
    exact key v6 (by rw [if_pos c, t6]) h
  · have c : ¬ 0 ≤ 2 * (d.toInt % (K 3 v4.toNatClampNeg).toInt) - (K 3 v4.toNatClampNeg).toInt := fun z => c (lgc_ge.mpr (by rw [z64, t6]; exact z))
    refine key (-v6) ?_ h
    rw [if_neg c, Int64.toInt_neg, t6]
    exact Int.bmod_eq_of_le (by omega) (by omega)
/-- PLACES alike -/
theorem pl_eq {N N2 : Nat} {I J I' : Nat → Int32} {L : Int64} {M K : Nat → Nat → Int32} {s k d a b : Int32} (ht : HT I M J K) (hs : 0 ≤ s.toInt ∧ s.toInt ≤ 3) (hk : 0 ≤ k.toInt ∧ k.toInt ≤ 6) (hd : 0 ≤ d.toInt ∧ d.toInt ≤ 1000001) (h : fX5_placeOn N I' (wb_sh M 1) s k d = some a) (g : fX12_placeOn N2 J L K s k d = some b) : a = b ∧ 0 ≤ a.toInt ∧ a.toInt < 21600 := by
  have n7 : (7 : Int32).toInt = 7 := by decide
  have x1 := ia_mul 7 7 n7 s (by omega) (by omega)
  have x2 := ia_add ((7 : Int32) * s) k (by omega) (by omega)
  have hi : ((7 : Int32) * s + k).toNatClampNeg < 28 := by rw [cl32]; omega
  obtain ⟨⟨b1, b2, b3, b4⟩, br⟩ := ht.2.2.2.2.1 _ hi
  have e1 := pl11 (M := wb_sh M 1) hd.1 hd.2 (by
    show HRg (M 1 _) (M 2 _) (M 3 _) (M 4 _)
    rw [b1, b2, b3, b4]; exact br) h
  have e2 := pl12 hd.1 hd.2 br g
  have e3 : a.toInt = b.toInt := by
    rw [e1, e2]
    show plc (M 1 _).toInt (M 2 _).toInt (M 3 _).toInt (M 4 _).toInt _ = _
    rw [b1, b2, b3, b4]
  refine ⟨t32 e3, ?_⟩
  rw [e1]
  unfold plc
  exact ⟨Int.emod_nonneg _ (by omega), Int.emod_lt_of_pos _ (by omega)⟩
/-! HANDS and COSTS of both -/
theorem bit1 {x : Int32} {b : Nat} (hb : b < 32) : ((x >>> (nI b &&& 31)) &&& 1) = 1 ↔ bt x b = true := by
  have h1 : ∀ i, i < 32 → (bt 1 i = true ↔ i = 0) := by decide +kernel
  have e0 : bt ((x >>> (nI b &&& 31)) &&& 1) 0 = bt x b := by
    rw [b_and, b_sshr b hb x (by omega), if_pos (by omega), (h1 0 (by omega)).mpr rfl, Bool.and_true, Nat.add_zero]
  constructor
  · intro h
    rw [← e0, h]
    exact (h1 0 (by omega)).mpr rfl
  · intro h
    apply b_ext
    intro i hi
    by_cases hi0 : i = 0
    · subst hi0
      rw [e0, h, (h1 0 (by omega)).mpr rfl]
    · have h2 : bt 1 i = false := by
        cases hb1 : bt 1 i with
        | false => rfl
        | true => exact absurd ((h1 i hi).mp hb1) hi0
      rw [b_and, h2, Bool.and_false]
theorem nI_self {x : Int32} (h : 0 ≤ x.toInt) : x = nI x.toInt.toNat := by
  apply t32
  have := Int32.toInt_lt x
  rw [nI_toInt (by omega)]
  omega
theorem isr {N : Nat} {I : Nat → Int32} {M : Nat → Nat → Int32} {a b r : Int32} (ha : 0 ≤ a.toInt) (hb : 0 ≤ b.toInt ∧ b.toInt < 30) (h : fX4_isRead N I M a b = some r) : (r = 1 ∧ bt (M 0 a.toInt.toNat) b.toInt.toNat = true) ∨ (r = 0 ∧ ¬ bt (M 0 a.toInt.toNat) b.toInt.toNat = true) := by
  unfold fX4_isRead at h
  obtain ⟨-, h⟩ := wb_n h
  have e : b = nI b.toInt.toNat := nI_self hb.1
  rcases ifr h with ⟨c, h⟩ | ⟨c, h⟩
  · left
    rw [e] at c
    exact ⟨(Option.some.inj h).symm, (bit1 (by omega)).mp c⟩
  · right
    refine ⟨(Option.some.inj h).symm, fun z => c ?_⟩
    rw [e]
    exact (bit1 (by omega)).mpr z
theorem ish_l {N : Nat} {J : Nat → Int32} {L : Int64} {K : Nat → Nat → Int32} {a b : Int32} (h0 : 0 ≤ (J 2).toInt) : ∀ (fu y : Nat) (v r : Int32), fX12_isHand_L5 N J L K a b fu v (nI y) = some r → (y : Int) ≤ (J 2).toInt → (v = 0 ∨ v = 1) → (r = 1 ∧ (v = 1 ∨ ∃ k : Nat, y ≤ k ∧ (k : Int) < (J 2).toInt ∧ K 6 k = a ∧ K 5 k = b)) ∨ (r = 0 ∧ v = 0 ∧ ¬ ∃ k : Nat, y ≤ k ∧ (k : Int) < (J 2).toInt ∧ K 6 k = a ∧ K 5 k = b) := by
  have hlt := Int32.toInt_lt (J 2)
  intro fu
  induction fu with
  | zero => intro y v r h; cases (show none = some r from h)
  | succ fu ih =>
    intro y v r h hy hv
    rw [fX12_isHand_L5.eq_2] at h
    have ty : (nI y).toInt = (y : Int) := nI_toInt (by omega)
    rcases ifr h with ⟨c, h⟩ | ⟨c, h⟩
    · have c := (le32 rfl ty).mp c
      have h := Option.some.inj (wb_y h).2
      subst h
      rcases hv with hv | hv
      · right
        refine ⟨hv, hv, ?_⟩
        rintro ⟨k, k1, k2, -⟩
        omega
      · exact Or.inl ⟨hv, Or.inl hv⟩
    · have c : ¬ _ := fun z => c ((le32 rfl ty).mpr z)
      have hy2 : ((y + 1 : Nat) : Int) ≤ (J 2).toInt := by omega
      have cy : (nI y).toNatClampNeg = y := nI_clamp (by omega)
      rcases hv with hv | hv
      · have h := wb_t hv h
        obtain ⟨-, h⟩ := wb_n h
        rw [cy] at h
        have nomt : ∀ v2 : Int32, v2 = nI y + 1 → ¬ (K 6 y = a ∧ K 5 y = b) → fX12_isHand_L5 N J L K a b fu 0 v2 = some r → (r = 1 ∧ (v = 1 ∨ ∃ k : Nat, y ≤ k ∧ (k : Int) < (J 2).toInt ∧ K 6 k = a ∧ K 5 k = b)) ∨ (r = 0 ∧ v = 0 ∧ ¬ ∃ k : Nat, y ≤ k ∧ (k : Int) < (J 2).toInt ∧ K 6 k = a ∧ K 5 k = b) := by
          intro v2 e2 hn h
          rw [e2, nI_1] at h
          rcases ih (y + 1) 0 r h hy2 (Or.inl rfl) with ⟨w1, w2⟩ | ⟨w1, -, w2⟩
          · left
            refine ⟨w1, Or.inr ?_⟩
            rcases w2 with w2 | ⟨k, k1, k2, k3, k4⟩
            · exact absurd w2 (by decide)
            · exact ⟨k, by omega, k2, k3, k4⟩
          · right
            refine ⟨w1, hv, ?_⟩
            rintro ⟨k, k1, k2, k3, k4⟩
            by_cases hk : k = y
            · subst hk; exact hn ⟨k3, k4⟩
            · exact w2 ⟨k, by omega, k2, k3, k4⟩
        rcases ifr h with ⟨d, h⟩ | ⟨d, h⟩
        · obtain ⟨-, h⟩ := wb_n h
          rcases ifr h with ⟨d2, h⟩ | ⟨d2, h⟩
          · obtain ⟨v4, e4, h⟩ := wb_v h
            rw [e4, nI_1] at h
            left
            rcases ih (y + 1) 1 r h hy2 (Or.inr rfl) with ⟨w1, -⟩ | ⟨-, w2, -⟩
            · exact ⟨w1, Or.inr ⟨y, Nat.le_refl _, by omega, d, d2⟩⟩
            · exact absurd w2 (by decide)
          · obtain ⟨v3, e3, h⟩ := wb_v h
            exact nomt v3 e3 (fun z => d2 z.2) h
        · obtain ⟨v2, e2, h⟩ := wb_v h
          exact nomt v2 e2 (fun z => d z.1) h
      · have h := wb_f (by rw [hv]; decide) h
        obtain ⟨v1, e1, h⟩ := wb_v h
        rw [e1, nI_1] at h
        left
        rcases ih (y + 1) 1 r h hy2 (Or.inr rfl) with ⟨w1, -⟩ | ⟨-, w2, -⟩
        · exact ⟨w1, Or.inl hv⟩
        · exact absurd w2 (by decide)
theorem hnd_eq {N N2 : Nat} {I I' J : Nat → Int32} {L : Int64} {M m K : Nat → Nat → Int32} {a b r s : Int32} (ht : HT I M J K) (hm : m 0 = M 6) (ha : 0 ≤ a.toInt ∧ a.toInt < 30) (hb : 0 ≤ b.toInt ∧ b.toInt < 30) (h : fX4_isRead N I' m a b = some r) (g : fX12_isHand N2 J L K a b = some s) : r = s := by
  obtain ⟨-, -, -, h2, -, -, hh⟩ := ht
  have e := hh a.toInt.toNat b.toInt.toNat (by omega) (by omega)
  have e2 : (∃ k : Nat, (k : Int) < (J 2).toInt ∧ (K 6 k).toInt = (a.toInt.toNat : Int) ∧ (K 5 k).toInt = (b.toInt.toNat : Int)) ↔ ∃ k : Nat, 0 ≤ k ∧ (k : Int) < (J 2).toInt ∧ K 6 k = a ∧ K 5 k = b := by
    constructor
    · rintro ⟨k, k1, k2, k3⟩
      exact ⟨k, Nat.zero_le _, k1, t32 (by omega), t32 (by omega)⟩
    · rintro ⟨k, -, k1, k2, k3⟩
      exact ⟨k, k1, by rw [k2]; omega, by rw [k3]; omega⟩
  rw [e2] at e
  unfold fX12_isHand at g
  rcases isr ha.1 hb h with ⟨w1, w2⟩ | ⟨w1, w2⟩
  · rw [hm] at w2
    rcases ish_l h2.1 N2 0 0 s g (by omega) (Or.inl rfl) with ⟨u1, -⟩ | ⟨-, -, u⟩
    · rw [w1, u1]
    · exact absurd (e.mp w2) u
  · rw [hm] at w2
    rcases ish_l h2.1 N2 0 0 s g (by omega) (Or.inl rfl) with ⟨-, u⟩ | ⟨u1, -, -⟩
    · rcases u with u | u
      · exact absurd u (by decide)
      · exact absurd (e.mpr u) w2
    · rw [w1, u1]
theorem dv30 {x : Int32} (h : 0 ≤ x.toInt) (h2 : x.toInt ≤ 389) : (0 ≤ (x / 30).toInt ∧ (x / 30).toInt < 30) ∧ (0 ≤ (x - x / 30 * 30).toInt ∧ (x - x / 30 * 30).toInt < 30) ∧ (x / 30).toInt = x.toInt / 30 ∧ (x - x / 30 * 30).toInt = x.toInt % 30 := by
  have n30 : (30 : Int32).toInt = 30 := by decide
  have a := ia_div x 30 30 n30 (by omega) h
  have b := ia_rem x 30 30 n30 (by omega) h
  omega
theorem mis_eq {N N2 : Nat} {I I' J : Nat → Int32} {L : Int64} {M m K : Nat → Nat → Int32} {x y r s : Int32} (ht : HT I M J K) (hm : m 0 = M 6) (hx : 0 ≤ x.toInt ∧ x.toInt ≤ 389) (hy : 0 ≤ y.toInt ∧ y.toInt ≤ 389) (h : fX4_misreading N I' m x y = some r) (g : fX12_beside N2 J L K x y = some s) : r = s ∧ (r = 0 ∨ r = 1 ∨ r = 2 ∨ r = 9) := by
  unfold fX4_misreading fX4_misreading_J70 at h
  unfold fX12_beside at g
  have dx := dv30 hx.1 hx.2
  have dy := dv30 hy.1 hy.2
  rcases ifr h with ⟨c, h⟩ | ⟨c, h⟩
  · have g := Option.some.inj (wb_t c g)
    have h := Option.some.inj h
    exact ⟨h.symm.trans g, Or.inl h.symm⟩
  · have g := wb_f c g
    rcases ifr h with ⟨c2, h⟩ | ⟨c2, h⟩
    · have g := wb_t c2 g
      obtain ⟨r2, e2, h⟩ := wb_b h
      obtain ⟨s2, f2, g⟩ := wb_b g
      have e := hnd_eq ht hm dx.2.1 dy.2.1 e2 f2
      subst e
      rcases ifr h with ⟨c3, h⟩ | ⟨c3, h⟩
      · have g := Option.some.inj (wb_t c3 g)
        have h := Option.some.inj h
        exact ⟨h.symm.trans g, Or.inr (Or.inr (Or.inr h.symm))⟩
      · have g := Option.some.inj (wb_f c3 g)
        have h := Option.some.inj h
        exact ⟨h.symm.trans g, Or.inr (Or.inl h.symm)⟩
    · have g := wb_f c2 g
      rcases ifr h with ⟨c3, h⟩ | ⟨c3, h⟩
      · have g := wb_t c3 g
        obtain ⟨r2, e2, h⟩ := wb_b h
        obtain ⟨s2, f2, g⟩ := wb_b g
        have e := hnd_eq ht hm dx.1 dy.1 e2 f2
        subst e
        rcases ifr h with ⟨c4, h⟩ | ⟨c4, h⟩
        · have g := Option.some.inj (wb_t c4 g)
          have h := Option.some.inj h
          exact ⟨h.symm.trans g, Or.inr (Or.inr (Or.inr h.symm))⟩
        · have g := Option.some.inj (wb_f c4 g)
          have h := Option.some.inj h
          exact ⟨h.symm.trans g, Or.inr (Or.inr (Or.inl h.symm))⟩
      · have g := Option.some.inj (wb_f c3 g)
        have h := Option.some.inj h
        exact ⟨h.symm.trans g, Or.inr (Or.inr (Or.inr h.symm))⟩
theorem cst_eq {N N2 : Nat} {I I' J : Nat → Int32} {L : Int64} {M m K : Nat → Nat → Int32} {x y r s : Int32} (ht : HT I M J K) (hm : m 0 = M 6) (hx : 0 ≤ x.toInt ∧ x.toInt ≤ 389) (hy : 0 ≤ y.toInt ∧ y.toInt ≤ 389) (h : fX4_costBeside N I' m x y = some r) (g : fX12_costOf N2 J L K x y = some s) : r = s ∧ 0 ≤ r.toInt ∧ r.toInt ≤ 9 := by
  unfold fX4_costBeside at h
  unfold fX12_costOf at g
  obtain ⟨r1, e1, h⟩ := wb_b h
  obtain ⟨s1, f1, g⟩ := wb_b g
  obtain ⟨e, k⟩ := mis_eq ht hm hx hy e1 f1
  subst e
  rcases ifr h with ⟨c, h⟩ | ⟨c, h⟩
  · have g := Option.some.inj (wb_t c g)
    have h := Option.some.inj h
    refine ⟨h.symm.trans g, ?_⟩
    rw [← h]; decide
  · have g := Option.some.inj (wb_f c g)
    have h := Option.some.inj h
    refine ⟨h.symm.trans g, ?_⟩
    rw [← h]
    rcases k with k | k | k | k <;> rw [k] <;> decide
/-- bounds that cut a COST alike -/
def BN (a b : Int32) : Prop := a = b ∨ (93 ≤ a.toInt ∧ 93 ≤ b.toInt)
theorem BN.lt {a b c : Int32} (h : BN a b) (hc : c.toInt ≤ 93) : a < c ↔ b < c := by
  rcases h with h | ⟨h1, h2⟩
  · rw [h]
  · constructor
    · intro z
      have := (lt32 rfl rfl).mp z
      omega
    · intro z
      have := (lt32 rfl rfl).mp z
      omega
theorem dv60 {x : Int32} (h : 0 ≤ x.toInt) (h2 : x.toInt < 21600) : 0 ≤ (x / 60).toInt ∧ (x / 60).toInt ≤ 359 := by
  have n60 : (60 : Int32).toInt = 60 := by decide
  have a := ia_div x 60 60 n60 (by omega) h
  omega
theorem cl_eq {N N2 : Nat} {I I2 J : Nat → Int32} {L : Int64} {M K : Nat → Nat → Int32} {n s d e1 e2 : Int32} (ht : HT I M J K) (er : EnR M K) (rg : ∀ j : Nat, -1 ≤ (M 13 j).toInt ∧ (M 13 j).toInt ≤ 389) (hs : 0 ≤ s.toInt ∧ s.toInt ≤ 3) (hd : 0 ≤ d.toInt ∧ d.toInt ≤ 1000001) (hb : BN e1 e2) : ∀ (fu fv y : Nat) (c a b : Int32), fX3_costOn_L37 N (wb_sh I 9) (wb_sh M 1) I2 (wb_sh M 13) n s d e1 fu c (nI y) = some a → fX12_costOn_L37 N2 J L K n s d e2 fv c (nI y) = some b → y ≤ 7 → 0 ≤ c.toInt → c.toInt ≤ 30 + 9 * (y : Int) → a = b ∧ 0 ≤ a.toInt ∧ a.toInt ≤ 93 := by
  intro fu
  induction fu with
  | zero => intro fv y c a b h; cases (show none = some a from h)
  | succ fu ih =>
    intro fv y c a b h g hy h0 h1
    cases fv with
    | zero => cases (show none = some b from g)
    | succ fv =>
      rw [fX3_costOn_L37.eq_2] at h
      rw [fX12_costOn_L37.eq_2] at g
      have ty : (nI y).toInt = (y : Int) := nI_toInt (by omega)
      rcases ifr h with ⟨c1, h⟩ | ⟨c1, h⟩
      · have g := Option.some.inj (wb_t c1 g)
        have h := Option.some.inj h
        subst h
        exact ⟨g, h0, by omega⟩
      · have g := wb_f c1 g
        have c1 : ¬ _ := fun z => c1 ((le32 (by decide : (7 : Int32).toInt = 7) ty).mpr z)
        rcases ifr h with ⟨c2, h⟩ | ⟨c2, h⟩
        · have g := Option.some.inj (wb_t ((hb.lt (by omega)).mp c2) g)
          have h := Option.some.inj h
          subst h
          exact ⟨g, h0, by omega⟩
        · have g := wb_f (fun z => c2 ((hb.lt (by omega)).mpr z)) g
          obtain ⟨r1, f1, h⟩ := wb_b h
          obtain ⟨s1, g1, g⟩ := wb_b g
          have e := at_eq er f1 g1
          subst e
          have r1r : -1 ≤ r1.toInt ∧ r1.toInt ≤ 389 := by
            unfold fX1_degreeOf at f1
            obtain ⟨-, f1⟩ := wb_n f1
            rw [← Option.some.inj f1]
            exact rg _
          rcases ifr h with ⟨c3, h⟩ | ⟨c3, h⟩
          · have g := wb_t c3 g
            obtain ⟨v2, ev, h⟩ := wb_v h
            obtain ⟨u2, eu, g⟩ := wb_v g
            rw [ev, nI_1] at h
            rw [eu, nI_1] at g
            exact ih fv (y + 1) c a b h g (by omega) h0 (by omega)
          · have g := wb_f c3 g
            have r1n : 0 ≤ r1.toInt := by
              refine Int.not_lt.mp (fun z => c3 ?_)
              apply t32
              rw [show (-1 : Int32).toInt = -1 from by decide]
              omega
            obtain ⟨r3, f3, h⟩ := wb_b h
            obtain ⟨r4, f4, h⟩ := wb_b h
            obtain ⟨v5, ev5, h⟩ := wb_v h
            obtain ⟨v6, ev6, h⟩ := wb_v h
            obtain ⟨s3, g3, g⟩ := wb_b g
            obtain ⟨s4, g4, g⟩ := wb_b g
            obtain ⟨s5, g5, g⟩ := wb_b g
            obtain ⟨u6, eu6, g⟩ := wb_v g
            obtain ⟨u7, eu7, g⟩ := wb_v g
            have e3 : s3 = r1 := Option.some.inj (g3.symm.trans g1)
            rw [e3] at g5
            unfold fX5_degreeOn at f3
            obtain ⟨p, fp, f3⟩ := wb_b f3
            have f3 := Option.some.inj f3
            obtain ⟨ep, p0, p1⟩ := pl_eq ht hs (by rw [ty]; omega) hd fp g4
            rw [← ep] at g5
            have dp := dv60 p0 p1
            rw [← f3] at f4
            obtain ⟨e4, q0, q1⟩ := cst_eq ht rfl ⟨r1n, r1r.2⟩ ⟨dp.1, by omega⟩ f4 g5
            rw [ev6, nI_1, ev5] at h
            rw [eu7, nI_1, eu6, ← e4] at g
            have ea := ia_add c r4 (by omega) (by omega)
            exact ih fv (y + 1) (c + r4) a b h g (by omega) (by omega) (by omega)
/-- COSTS of a WHEEL on a DAY alike -/
theorem co_eq {N N2 : Nat} {I I2 J : Nat → Int32} {L : Int64} {M K : Nat → Nat → Int32} {n s d e1 e2 a b : Int32} (ht : HT I M J K) (er : EnR M K) (rg : ∀ j : Nat, -1 ≤ (M 13 j).toInt ∧ (M 13 j).toInt ≤ 389) (hs : 0 ≤ s.toInt ∧ s.toInt ≤ 3) (hd : 0 ≤ d.toInt ∧ d.toInt ≤ 1000001) (hb : BN e1 e2) (h : fX3_costOn N (wb_sh I 9) (wb_sh M 1) I2 (wb_sh M 13) n s d e1 = some a) (g : fX12_costOn N2 J L K n s d e2 = some b) : a = b ∧ 0 ≤ a.toInt ∧ a.toInt ≤ 93 := by
  unfold fX3_costOn fX3_costOn_J31 fX3_costOn_J32 at h
  unfold fX12_costOn fX12_costOn_J31 fX12_costOn_J32 at g
  obtain ⟨r7, f7, h⟩ := wb_b h
  obtain ⟨s8, g8, g⟩ := wb_b g
  have e := at_eq er f7 g8
  subst e
  rcases ifr h with ⟨c, h⟩ | ⟨c, h⟩
  · have g := wb_t c g
    exact cl_eq ht er rg hs hd hb N N2 0 0 a b h g (by omega) (by decide) (by decide)
  · have g := wb_f c g
    obtain ⟨s9, g9, g⟩ := wb_b g
    have e9 : s9 = r7 := Option.some.inj (g9.symm.trans g8)
    rw [e9] at g
    rcases ifr h with ⟨c2, h⟩ | ⟨c2, h⟩
    · have g := wb_t c2 g
      exact cl_eq ht er rg hs hd hb N N2 0 0 a b h g (by omega) (by decide) (by decide)
    · have g := wb_f c2 g
      exact cl_eq ht er rg hs hd hb N N2 0 30 a b h g (by omega) (by decide) (by decide)
/-! checks of arguments, class and reference -/
theorem wI_n (x a b : Int32) (la lb : Int) (ha : a.toInt = la) (hb : b.toInt = lb) : (wI x a b = 1 ∧ la ≤ x.toInt ∧ x.toInt ≤ lb) ∨ (wI x a b = 0 ∧ ¬ (la ≤ x.toInt ∧ x.toInt ≤ lb)) := by
  rw [← ha, ← hb]
  exact wI_c x a b
theorem ck_within {N : Nat} {x a b r : Int32} (la lb : Int) (ha : a.toInt = la) (hb : b.toInt = lb) (h : fX11_within N x a b = some r) : (r = 1 ∧ la ≤ x.toInt ∧ x.toInt ≤ lb) ∨ (r = 0 ∧ ¬ (la ≤ x.toInt ∧ x.toInt ≤ lb)) := by
  rw [wn11] at h
  rw [← Option.some.inj h]
  exact wI_n x a b la lb ha hb
theorem ck_within12 {N : Nat} {x a b r : Int32} (la lb : Int) (ha : a.toInt = la) (hb : b.toInt = lb) (h : fX12_within N x a b = some r) : (r = 1 ∧ la ≤ x.toInt ∧ x.toInt ≤ lb) ∨ (r = 0 ∧ ¬ (la ≤ x.toInt ∧ x.toInt ≤ lb)) := ck_within (N := N) la lb ha hb h
/-- the relation does not see the reference's 'thrown' -/
theorem RR.j0 {I0 I1 : Nat → Int32} {M0 M1 : Nat → Nat → Int32} (h : RR I0 M0 I1 M1) (v : Int32) : RR I0 M0 (upd I1 0 v) M1 := h
/-! CLIMBS and their PLACES, of both -/
theorem psm_sm {f : Nat → Int32} {o : Nat} : ∀ n, psm f o n = sm f o n := by
  intro n
  induction n with
  | zero => rfl
  | succ n ih =>
    show psm f o n + (f (o + n)).toInt = sm f o n + (f (o + n)).toInt
    rw [ih]
/-- a told CLIMATE of both -/
def CL (m5 k4 : Nat → Int32) (c : Nat) : Prop := c < 7 ∧ (∀ s : Nat, s ≤ 12 → (m5 (13 * c + s)).toInt = psm k4 (12 * c) s) ∧ (∀ z : Nat, z < 12 → 1 ≤ (k4 (12 * c + z)).toInt ∧ (k4 (12 * c + z)).toInt ≤ 3600) ∧ psm k4 (12 * c) 12 = 3600
theorem CL.of {I J : Nat → Int32} {M K : Nat → Nat → Int32} (ht : HT I M J K) (k1 : RS (J 1) (K 4)) {c : Nat} (hc : (c : Int) < (J 1).toInt) : CL (M 5) (K 4) c := by
  obtain ⟨h1, h2, h3, h4, h5, h6, h7⟩ := ht
  have rv := k1 c hc
  exact ⟨by omega, h6.2 c hc, rv.1, by rw [psm_sm]; exact rv.2⟩
theorem CL.mono {m5 k4 : Nat → Int32} {c : Nat} (h : CL m5 k4 c) : ∀ d s : Nat, s + d ≤ 12 → psm k4 (12 * c) s + (d : Int) ≤ psm k4 (12 * c) (s + d) := by
  intro d
  induction d with
  | zero => intro s hs; simp
  | succ d ih =>
    intro s hs
    have a := ih s (by omega)
    have b := (h.2.2.1 (s + d) (by omega)).1
    show _ ≤ psm k4 (12 * c) (s + d) + (k4 (12 * c + (s + d))).toInt
    omega
theorem CL.rg {m5 k4 : Nat → Int32} {c : Nat} (h : CL m5 k4 c) {s : Nat} (hs : s ≤ 12) : (s : Int) ≤ psm k4 (12 * c) s ∧ psm k4 (12 * c) s ≤ 3600 - (12 - (s : Int)) := by
  have a := h.mono s 0 (by omega)
  have b := h.mono (12 - s) s (by omega)
  rw [Nat.zero_add] at a
  rw [show s + (12 - s) = 12 by omega, h.2.2.2] at b
  have z : psm k4 (12 * c) 0 = 0 := rfl
  omega
theorem i13 {x : Int32} {c s : Nat} (hx : x.toInt = (c : Int)) (hc : c < 7) {y : Int32} (hy : y.toInt = (s : Int)) (hs : s ≤ 13) : ((13 : Int32) * x + y).toInt = ((13 * c + s : Nat) : Int) ∧ ((13 : Int32) * x + y).toNatClampNeg = 13 * c + s ∧ ((13 : Int32) * x + y + 1).toNatClampNeg = 13 * c + (s + 1) := by
  have n13 : (13 : Int32).toInt = 13 := by decide
  have n1 : (1 : Int32).toInt = 1 := by decide
  have x1 := ia_mul 13 13 n13 x (by omega) (by omega)
  have x2 := ia_add ((13 : Int32) * x) y (by omega) (by omega)
  have x3 := ia_add ((13 : Int32) * x + y) 1 (by omega) (by omega)
  rw [cl32, cl32]
  omega
theorem i12 {x : Int32} {c s : Nat} (hx : x.toInt = (c : Int)) (hc : c < 7) {y : Int32} (hy : y.toInt = (s : Int)) (hs : s ≤ 13) : ((12 : Int32) * x + y).toNatClampNeg = 12 * c + s := by
  have n12 : (12 : Int32).toInt = 12 := by decide
  have x1 := ia_mul 12 12 n12 x (by omega) (by omega)
  have x2 := ia_add ((12 : Int32) * x) y (by omega) (by omega)
  rw [cl32]
  omega
/-! answers of both, from what the class's method and the reference's say -/
theorem al11 {N : Nat} {x : Int32} {α : Type} {f : Unit → Option (Nat ⊕ α)} {r : Nat ⊕ α} (h : wb_xb (fX11_allow N x) f = some r) : (x = 0 ∧ r = .inl 2) ∨ (¬ x = 0 ∧ f () = some r) := by
  by_cases hx : x = 0
  · left
    refine ⟨hx, ?_⟩
    subst hx
    rw [alow0] at h
    exact (Option.some.inj h).symm
  · right
    refine ⟨hx, ?_⟩
    have e : fX11_allow N x = some (.inr ()) := by unfold fX11_allow; rw [if_neg hx]; rfl
    rw [e] at h
    exact h
theorem fin_2sx {P : (Nat → Int32) → (Nat → Nat → Int32) → Prop} {x : Option (Nat ⊕ (Int32 × (Nat → Int32) × (Nat → Nat → Int32)))} {I : Nat → Int32} {M : Nat → Nat → Int32} {o : Nat → Int64} {r : Int32 × (Nat → Int32) × (Nat → Nat → Int32) × (Nat → Int64)} {j s : Int32} (h : wb_hp x (fun k => if k = 1 then some ((1 : Int32), I, M, o) else if k = 2 then some ((2 : Int32), I, M, o) else none) (fun r => (some (vp_updL o ((0 : Int32)).toNatClampNeg r.1.toInt64)).bind fun o1 => some ((0 : Int32), r.2.1, r.2.2, o1)) = some r) (key : ∀ q, x = some q → (q = .inl 1 ∧ j = 1 ∧ P I M) ∨ (q = .inl 2 ∧ j = 2 ∧ P I M) ∨ ∃ a, q = .inr a ∧ j = 0 ∧ a.1 = s ∧ P a.2.1 a.2.2) : (j = r.1 ∧ (r.1 = 0 → r.2.2.2 0 = s.toInt64)) ∧ P r.2.1 r.2.2.1 := by
  rcases fr_hp h with ⟨k, e, h⟩ | ⟨a, e, h⟩
  · rcases key _ e with ⟨w0, w, p⟩ | ⟨w0, w, p⟩ | ⟨a, w, -⟩
    · have w0 := Sum.inl.inj w0
      have h := Option.some.inj (wb_t w0 h)
      rw [← h]
      exact ⟨⟨w, fun z => absurd z (by show ¬ (1 : Int32) = 0; decide)⟩, p⟩
    · have w0 := Sum.inl.inj w0
      have h := wb_f (by rw [w0]; decide) h
      have h := Option.some.inj (wb_t w0 h)
      rw [← h]
      exact ⟨⟨w, fun z => absurd z (by show ¬ (2 : Int32) = 0; decide)⟩, p⟩
    · cases w
  · obtain ⟨o1, eo, h⟩ := wb_v h
    have h := Option.some.inj h
    rcases key _ e with ⟨w, -⟩ | ⟨w, -⟩ | ⟨a2, w, w2, w3, p⟩
    · cases w
    · cases w
    · have w := Sum.inr.inj w
      rw [← h]
      rw [← w] at w3 p
      refine ⟨⟨w2, fun _ => ?_⟩, p⟩
      show o1 0 = _
      rw [eo, ← w3]
      rfl
/-! counts of both -/
/-- a loop that adds: what it adds, as a sum -/
noncomputable def sm2 (d : Nat → Int32) : Nat → Int32
  | 0 => 0
  | n + 1 => sm2 d n + d n
theorem z32 (x : Int32) : x + 0 = x := Int32.add_zero x
/-- the outcomes told, of both -/
noncomputable def OR (M K : Nat → Nat → Int32) : Prop := ∀ j : Nat, j < 20 → M 28 j = K 32 j ∧ (-1 ≤ (M 28 j).toInt ∧ (M 28 j).toInt ≤ 120) ∧ (¬ M 28 j = -1 → M 29 j = K 33 j ∧ 0 ≤ (M 29 j).toInt ∧ (M 29 j).toInt ≤ 120) ∧ M 30 j = K 34 j ∧ -1 ≤ (M 30 j).toInt ∧ (M 30 j).toInt ≤ 12
/-! SEARCHES of both -/
theorem ni1e6 : (1000000 : Int32).toInt = 1000000 := by decide
theorem ni1 : (1 : Int32).toInt = 1 := by decide
theorem ni0 : (0 : Int32).toInt = 0 := by decide
theorem nim1 : (-1 : Int32).toInt = -1 := by decide
theorem p1i {x : Int32} (h : x.toInt ≤ 2000000) : (x + 1).toInt = x.toInt + 1 := by
  have := Int32.le_toInt x
  have a := ia_add x 1 (by rw [ni1]; omega) (by rw [ni1]; omega)
  rw [ni1] at a
  exact a
/-- what a COST changes in the class's SEARCH -/
theorem la8 {N : Nat} {I : Nat → Int32} {M : Nat → Nat → Int32} {x : Int32} {R : (Nat → Int32) × (Nat → Nat → Int32)} (h : fX8_lookAt N I M x = some R) : (¬ x ≤ I 4 ∧ R = (I, M)) ∨ (x ≤ I 4 ∧ I 4 ≤ x ∧ R.1 = upd (upd I 5 (I 5 + 1)) 6 (I 3) ∧ ((20 ≤ I 5 ∧ R.2 = M) ∨ (¬ 20 ≤ I 5 ∧ ¬ I 5 < 0 ∧ R.2 = wb_um M 0 (I 5).toNatClampNeg (I 3)))) ∨ (x ≤ I 4 ∧ ¬ I 4 ≤ x ∧ R.1 = upd (upd (upd (upd I 4 x) 5 0) 5 (0 + 1)) 6 (I 3) ∧ R.2 = wb_um M 0 0 (I 3)) := by
  unfold fX8_lookAt at h
  rcases ifr h with ⟨c, h⟩ | ⟨c, h⟩
  · rcases ifr h with ⟨d, h⟩ | ⟨d, h⟩
    · refine Or.inr (Or.inl ⟨c, d, ?_⟩)
      unfold fX8_lookAt_J27 at h
      rcases ifr h with ⟨e, h⟩ | ⟨e, h⟩
      · unfold fX8_lookAt_J49 at h
        have h := Option.some.inj h
        rw [← h]
        exact ⟨rfl, Or.inl ⟨e, rfl⟩⟩
      · obtain ⟨n, h⟩ := wb_n h
        unfold fX8_lookAt_J49 at h
        have h := Option.some.inj h
        rw [← h]
        exact ⟨rfl, Or.inr ⟨e, fun z => n (Or.inl z), rfl⟩⟩
    · refine Or.inr (Or.inr ⟨c, d, ?_⟩)
      obtain ⟨i4, e4, h⟩ := wb_v h
      obtain ⟨i5, e5, h⟩ := wb_v h
      have z5 : i5 5 = 0 := by rw [e5]; rfl
      have z3 : i5 3 = I 3 := by rw [e5, e4]; rfl
      unfold fX8_lookAt_J27 at h
      rw [z5] at h
      have h := wb_f (c := (20 : Int32) ≤ 0) (by decide) h
      obtain ⟨-, h⟩ := wb_n h
      unfold fX8_lookAt_J49 at h
      have h := Option.some.inj h
      rw [← h]
      refine ⟨?_, ?_⟩
      · show upd (upd i5 5 (i5 5 + 1)) 6 (i5 3) = _
        rw [z5, z3, e5, e4]
      · show wb_um M 0 (0 : Int32).toNatClampNeg (i5 3) = _
        rw [z3]
        rfl
  · exact Or.inl ⟨c, (Option.some.inj h).symm⟩
noncomputable def QS (i m0 k : Nat → Int32) : Prop := i 1 = k 0 ∧ i 2 = k 1 ∧ i 3 = k 2 ∧ (0 ≤ (i 1).toInt ∧ (i 1).toInt ≤ 119) ∧ (0 ≤ (i 2).toInt ∧ (i 2).toInt ≤ 3) ∧ (0 ≤ (i 3).toInt ∧ (i 3).toInt ≤ 1000001) ∧ ((i 4 = 1000 ∧ i 5 = 0 ∧ i 6 = -1 ∧ k 3 = -1 ∧ k 4 = 0 ∧ k 5 = -1 ∧ k 6 = -1) ∨ (i 4 = k 3 ∧ (0 ≤ (i 4).toInt ∧ (i 4).toInt ≤ 93) ∧ i 5 = k 4 ∧ 1 ≤ (i 5).toInt ∧ (i 5).toInt ≤ (i 3).toInt ∧ m0 0 = k 5 ∧ i 6 = k 6))
theorem k12_0 : (0 : Int32).toNatClampNeg = 0 := by decide
theorem k12_1 : (1 : Int32).toNatClampNeg = 1 := by decide
theorem k12_2 : (2 : Int32).toNatClampNeg = 2 := by decide
theorem k12_3 : (3 : Int32).toNatClampNeg = 3 := by decide
theorem k12_4 : (4 : Int32).toNatClampNeg = 4 := by decide
theorem k12_5 : (5 : Int32).toNatClampNeg = 5 := by decide
theorem k12_6 : (6 : Int32).toNatClampNeg = 6 := by decide
/-- behind the reference's look at a COST: the DAY goes on -/
theorem j173s {N : Nat} {x y : Int32} {gg : (Nat → Int32) → Int64 → (Nat → Nat → Int32) → Int32 → Option (Int32 × (Nat → Int32) × Int64 × (Nat → Nat → Int32))} {J : Nat → Int32} {L : Int64} {K : Nat → Nat → Int32} {S : Int32 × (Nat → Int32) × Int64 × (Nat → Nat → Int32)} (h : fX12_on_J173 N x gg J L K y = some S) : gg J L (wb_um K 18 2 (K 18 2 + 1)) (y + 1) = some S := by
  unfold fX12_on_J173 at h
  rw [k12_2] at h
  obtain ⟨-, h⟩ := wb_n h
  obtain ⟨-, h⟩ := wb_n h
  obtain ⟨k5, e5, h⟩ := wb_v h
  obtain ⟨v6, e6, h⟩ := wb_v h
  rw [e5, e6] at h
  exact h
theorem j144s {N : Nat} {x y d v : Int32} {gg : (Nat → Int32) → Int64 → (Nat → Nat → Int32) → Int32 → Option (Int32 × (Nat → Int32) × Int64 × (Nat → Nat → Int32))} {J : Nat → Int32} {L : Int64} {K : Nat → Nat → Int32} {S : Int32 × (Nat → Int32) × Int64 × (Nat → Nat → Int32)} (h : fX12_on_J144 N x gg J L K y d v = some S) : (v = K 18 3 ∧ fX12_on_J173 N x gg J L (wb_um (wb_um K 18 4 (K 18 4 + 1)) 18 6 d) y = some S) ∨ (¬ v = K 18 3 ∧ fX12_on_J173 N x gg J L K y = some S) := by
  unfold fX12_on_J144 at h
  rw [k12_3, k12_4, k12_6] at h
  obtain ⟨-, h⟩ := wb_n h
  rcases ifr h with ⟨c, h⟩ | ⟨c, h⟩
  · obtain ⟨-, h⟩ := wb_n h
    obtain ⟨-, h⟩ := wb_n h
    obtain ⟨k7, e7, h⟩ := wb_v h
    obtain ⟨-, h⟩ := wb_n h
    obtain ⟨k8, e8, h⟩ := wb_v h
    rw [e8, e7] at h
    exact Or.inl ⟨c, h⟩
  · exact Or.inr ⟨c, h⟩
theorem j122s {N : Nat} {x y d v : Int32} {gg : (Nat → Int32) → Int64 → (Nat → Nat → Int32) → Int32 → Option (Int32 × (Nat → Int32) × Int64 × (Nat → Nat → Int32))} {J : Nat → Int32} {L : Int64} {K : Nat → Nat → Int32} {S : Int32 × (Nat → Int32) × Int64 × (Nat → Nat → Int32)} (h : fX12_on_J122 N x gg J L K y d v = some S) : fX12_on_J144 N x gg J L (wb_um (wb_um (wb_um K 18 3 v) 18 4 0) 18 5 d) y d v = some S := by
  unfold fX12_on_J122 at h
  rw [k12_3, k12_4, k12_5] at h
  obtain ⟨-, h⟩ := wb_n h
  obtain ⟨k7, e7, h⟩ := wb_v h
  obtain ⟨-, h⟩ := wb_n h
  obtain ⟨k8, e8, h⟩ := wb_v h
  obtain ⟨-, h⟩ := wb_n h
  obtain ⟨k9, e9, h⟩ := wb_v h
  rw [e9, e8, e7] at h
  exact h
/-- a look at a COST, of both -/
theorem lk_s {N N2 : Nat} {I : Nat → Int32} {M K : Nat → Nat → Int32} {v : Int32} {R : (Nat → Int32) × (Nat → Nat → Int32)} (q : QS I (M 0) (K 18)) (h3 : (I 3).toInt ≤ 1000000) (v0 : 0 ≤ v.toInt) (v1 : v.toInt ≤ 93) (h : fX8_lookAt N I M v = some R) : (R.1 3 = I 3 ∧ R.1 1 = I 1 ∧ R.1 2 = I 2 ∧ R.1 0 = I 0) ∧ ∀ (x y : Int32) (gg : (Nat → Int32) → Int64 → (Nat → Nat → Int32) → Int32 → Option (Int32 × (Nat → Int32) × Int64 × (Nat → Nat → Int32))) (J : Nat → Int32) (L : Int64) S, ((K 18 3 = -1 → fX12_on_J122 N2 x gg J L K y (K 18 2) v = some S) ∧ (¬ K 18 3 = -1 → K 18 3 ≤ v → fX12_on_J144 N2 x gg J L K y (K 18 2) v = some S) ∧ (¬ K 18 3 = -1 → ¬ K 18 3 ≤ v → fX12_on_J122 N2 x gg J L K y (K 18 2) v = some S)) → ∃ k : Nat → Int32, QS (upd R.1 3 (R.1 3 + 1)) (R.2 0) k ∧ gg J L (wb_mm K 18 k) (y + 1) = some S := by
  obtain ⟨q1, q2, q3, g1, g2, g3, q⟩ := q
  have t1000 : (1000 : Int32).toInt = 1000 := by decide
  have tt : (I 3 + 1).toInt = (I 3).toInt + 1 := p1i (by omega)
  have mm : ∀ (K : Nat → Nat → Int32) (i : Nat) (x : Int32), wb_um K 18 i x = wb_mm K 18 (upd (K 18) i x) := fun K i x => rfl
  have m2 : ∀ (K : Nat → Nat → Int32) (f g : Nat → Int32), wb_mm (wb_mm K 18 f) 18 g = wb_mm K 18 g := by
    intro K f g
    funext j
    unfold wb_mm
    by_cases e : j = 18
    · rw [if_pos e, if_pos e]
    · rw [if_neg e, if_neg e, if_neg e]
  -- the new least: both begin anew
  have new : (R.1 = upd (upd (upd (upd I 4 v) 5 0) 5 (0 + 1)) 6 (I 3) ∧ R.2 = wb_um M 0 0 (I 3)) → ∀ (x y : Int32) (gg : (Nat → Int32) → Int64 → (Nat → Nat → Int32) → Int32 → Option (Int32 × (Nat → Int32) × Int64 × (Nat → Nat → Int32))) (J : Nat → Int32) (L : Int64) S, fX12_on_J122 N2 x gg J L K y (K 18 2) v = some S → ∃ k : Nat → Int32, QS (upd R.1 3 (R.1 3 + 1)) (R.2 0) k ∧ gg J L (wb_mm K 18 k) (y + 1) = some S := by
    intro e x y gg J L S g
    rcases j144s (j122s g) with ⟨c, g⟩ | ⟨c, -⟩
    · have g := j173s g
      simp only [mm, m2] at g
      refine ⟨_, ?_, g⟩
      rw [e.1, e.2]
      refine ⟨q1, q2, ?_, g1, g2, ?_, Or.inr ⟨rfl, ⟨v0, v1⟩, rfl, ?_, ?_, ?_, ?_⟩⟩
      · show I 3 + 1 = K 18 2 + 1
        rw [q3]
      · show 0 ≤ (I 3 + 1).toInt ∧ (I 3 + 1).toInt ≤ 1000001
        rw [tt]; omega
      · show 1 ≤ ((0 : Int32) + 1).toInt
        decide
      · show ((0 : Int32) + 1).toInt ≤ (I 3 + 1).toInt
        rw [tt, show ((0 : Int32) + 1).toInt = 1 from by decide]; omega
      · exact q3
      · exact q3
    · exact absurd rfl c
  rcases la8 h with ⟨c, e⟩ | ⟨c, d, e, f⟩ | ⟨c, d, e, f⟩
  · -- above
    refine ⟨by rw [e]; exact ⟨rfl, rfl, rfl, rfl⟩, fun x y gg J L S g => ?_⟩
    rcases q with ⟨a1, -⟩ | ⟨a1, a2, a3, a4, a5, a6, a7⟩
    · exfalso
      refine c (Int32.le_iff_toInt_le.mpr ?_)
      rw [a1, t1000]; omega
    · have hk : ¬ K 18 3 = -1 := by
        intro z
        rw [← a1] at z
        rw [z, nim1] at a2
        omega
      have hle : K 18 3 ≤ v := by
        rw [← a1]
        have c : ¬ _ := fun z => c (Int32.le_iff_toInt_le.mpr z)
        exact Int32.le_iff_toInt_le.mpr (by omega)
      rcases j144s (g.2.1 hk hle) with ⟨w, -⟩ | ⟨-, g⟩
      · exact absurd (Int32.le_iff_toInt_le.mpr (by rw [w, a1]; omega)) c
      · have g := j173s g
        simp only [mm] at g
        refine ⟨_, ?_, g⟩
        rw [e]
        refine ⟨q1, q2, ?_, g1, g2, ?_, Or.inr ⟨a1, a2, a3, a4, ?_, a6, a7⟩⟩
        · show I 3 + 1 = K 18 2 + 1
          rw [q3]
        · show 0 ≤ (I 3 + 1).toInt ∧ (I 3 + 1).toInt ≤ 1000001
          rw [tt]; omega
        · show (I 5).toInt ≤ (I 3 + 1).toInt
          rw [tt]; omega
  · -- alike
    refine ⟨by rw [e]; exact ⟨rfl, rfl, rfl, rfl⟩, fun x y gg J L S g => ?_⟩
    have c := Int32.le_iff_toInt_le.mp c
    have d := Int32.le_iff_toInt_le.mp d
    rcases q with ⟨a1, -⟩ | ⟨a1, a2, a3, a4, a5, a6, a7⟩
    · exfalso
      rw [a1, t1000] at d
      omega
    · have hk : ¬ K 18 3 = -1 := by
        intro z
        rw [← a1] at z
        rw [z, nim1] at a2
        omega
      have hle : K 18 3 ≤ v := by
        rw [← a1]
        exact Int32.le_iff_toInt_le.mpr (by omega)
      rcases j144s (g.2.1 hk hle) with ⟨-, g⟩ | ⟨w, -⟩
      · have g := j173s g
        simp only [mm, m2] at g
        refine ⟨_, ?_, g⟩
        have t5 : (I 5 + 1).toInt = (I 5).toInt + 1 := p1i (by omega)
        rw [e]
        refine ⟨q1, q2, ?_, g1, g2, ?_, Or.inr ⟨a1, a2, ?_, ?_, ?_, ?_, ?_⟩⟩
        · show I 3 + 1 = K 18 2 + 1
          rw [q3]
        · show 0 ≤ (I 3 + 1).toInt ∧ (I 3 + 1).toInt ≤ 1000001
          rw [tt]; omega
        · show I 5 + 1 = K 18 4 + 1
          rw [a3]
        · show 1 ≤ (I 5 + 1).toInt
          rw [t5]; omega
        · show (I 5 + 1).toInt ≤ (I 3 + 1).toInt
          rw [t5, tt]; omega
        · rcases f with ⟨-, f⟩ | ⟨-, -, f⟩
          · rw [f]; exact a6
          · rw [f]
            show upd (M 0) (I 5).toNatClampNeg (I 3) 0 = K 18 5
            have hne : ¬ (0 : Nat) = (I 5).toNatClampNeg := by
              rw [cl32]; omega
            unfold upd
            rw [if_neg hne]
            exact a6
        · exact q3
      · exfalso
        exact w (by rw [← a1]; exact t32 (by omega))
  · -- below
    refine ⟨by rw [e]; exact ⟨rfl, rfl, rfl, rfl⟩, fun x y gg J L S g => ?_⟩
    refine new ⟨e, f⟩ x y gg J L S ?_
    rcases q with ⟨a1, a2, a3, a4, -⟩ | ⟨a1, a2, a3, a4, a5, a6, a7⟩
    · exact g.1 a4
    · refine g.2.2 ?_ ?_
      · intro z
        rw [← a1] at z
        rw [z, nim1] at a2
        omega
      · rw [← a1]; exact d
theorem on_l {N N2 : Nat} {Ic : Nat → Int32} {Mc : Nat → Nat → Int32} {I2 : Nat → Int32} {x : Int32} (rg : ∀ j : Nat, -1 ≤ (Mc 13 j).toInt ∧ (Mc 13 j).toInt ≤ 389) : ∀ (fu fv : Nat) (I : Nat → Int32) (M : Nat → Nat → Int32) (J : Nat → Int32) (L : Int64) (K : Nat → Nat → Int32) (y : Int32) R S, HT Ic Mc J K → EnR Mc K → QS I (M 0) (K 18) → fX8_goOn_L3 N (wb_sh Ic 9) (wb_sh Mc 1) I2 (wb_sh Mc 13) x fu I M y = some R → fX12_on_L37 N2 x fv J L K y = some S → R.1 = S.1 ∧ QS R.2.1 (R.2.2 0) (S.2.2.2 18) ∧ S.2.1 = J ∧ R.2.1 0 = I 0 := by
  intro fu
  induction fu with
  | zero => intro fv I M J L K y R S ht er q h; cases (show none = some R from h)
  | succ fu ih =>
    intro fv I M J L K y R S ht er q h g
    cases fv with
    | zero => cases (show none = some S from g)
    | succ fv =>
      rw [fX8_goOn_L3.eq_2] at h
      rw [fX12_on_L37.eq_2, k12_0, k12_1, k12_2, k12_3] at g
      have q0 := q
      obtain ⟨q1, q2, q3, g1, g2, g3, qq⟩ := q
      rcases ifr h with ⟨c, h⟩ | ⟨c, h⟩
      · have g := Option.some.inj (wb_t c g)
        have h := Option.some.inj h
        rw [← g, ← h]
        exact ⟨rfl, q0, rfl, rfl⟩
      · have g := wb_f c g
        obtain ⟨-, g⟩ := wb_n g
        rw [← q3] at g
        rcases ifr h with ⟨c2, h⟩ | ⟨c2, h⟩
        · have g := Option.some.inj (wb_t c2 g)
          have h := Option.some.inj h
          rw [← g, ← h]
          exact ⟨rfl, q0, rfl, rfl⟩
        · have g := wb_f c2 g
          have c2 : ¬ _ := fun z => c2 ((lt32 ni1e6 rfl).mpr z)
          obtain ⟨-, g⟩ := wb_n g
          obtain ⟨v13, e13, g⟩ := wb_v g
          obtain ⟨-, g⟩ := wb_n g
          obtain ⟨-, g⟩ := wb_n g
          obtain ⟨-, g⟩ := wb_n g
          obtain ⟨r1, f1, h⟩ := wb_b h
          obtain ⟨r2, f2, h⟩ := wb_b h
          obtain ⟨I3, eI3, h⟩ := wb_v h
          obtain ⟨w4, ew4, h⟩ := wb_v h
          rw [e13, ← q1, ← q2] at g
          -- the COST of both
          have cost : ∀ bd : Int32, BN (I 4) bd → ∀ gg, fX12_on_J96 N2 x gg J L K y (I 3) bd (I 3) (I 2) (I 1) = some S → 0 ≤ r1.toInt ∧ r1.toInt ≤ 93 ∧ ((K 18 3 = -1 → fX12_on_J122 N2 x gg J L K y (K 18 2) r1 = some S) ∧ (¬ K 18 3 = -1 → K 18 3 ≤ r1 → fX12_on_J144 N2 x gg J L K y (K 18 2) r1 = some S) ∧ (¬ K 18 3 = -1 → ¬ K 18 3 ≤ r1 → fX12_on_J122 N2 x gg J L K y (K 18 2) r1 = some S)) := by
            intro bd hb gg g
            unfold fX12_on_J96 at g
            rw [k12_3] at g
            obtain ⟨s1, d1, g⟩ := wb_b g
            obtain ⟨e, z0, z1⟩ := co_eq ht er rg g2 g3 hb f1 d1
            rw [← e] at g
            obtain ⟨-, g⟩ := wb_n g
            rw [q3] at g
            refine ⟨z0, z1, fun z => wb_t z g, fun z z2 => ?_, fun z z2 => ?_⟩
            · have g := wb_f z g
              obtain ⟨-, g⟩ := wb_n g
              exact wb_t z2 g
            · have g := wb_f z g
              obtain ⟨-, g⟩ := wb_n g
              exact wb_f z2 g
          have both : ∃ gg, gg = (fun q0 q1 q2 q3 => fX12_on_L37 N2 x fv q0 q1 q2 q3) ∧ 0 ≤ r1.toInt ∧ r1.toInt ≤ 93 ∧ ((K 18 3 = -1 → fX12_on_J122 N2 x gg J L K y (K 18 2) r1 = some S) ∧ (¬ K 18 3 = -1 → K 18 3 ≤ r1 → fX12_on_J144 N2 x gg J L K y (K 18 2) r1 = some S) ∧ (¬ K 18 3 = -1 → ¬ K 18 3 ≤ r1 → fX12_on_J122 N2 x gg J L K y (K 18 2) r1 = some S)) := by
            refine ⟨_, rfl, ?_⟩
            rcases qq with ⟨a1, -, -, a4, -⟩ | ⟨a1, a2, -⟩
            · have g := wb_t a4 g
              exact cost 999 (Or.inr ⟨by rw [a1]; decide, by decide⟩) _ g
            · have hk : ¬ K 18 3 = -1 := by
                intro z
                rw [← a1] at z
                rw [z, nim1] at a2
                omega
              have g := wb_f hk g
              obtain ⟨-, g⟩ := wb_n g
              exact cost (K 18 3) (Or.inl a1) _ g
          obtain ⟨gg, eg, z0, z1, g⟩ := both
          have ls := lk_s (N := N) (N2 := N2) q0 (by omega) z0 z1 f2
          obtain ⟨k, qk, g⟩ := ls.2 x y gg J L S g
          rw [eg] at g
          rw [eI3, ew4] at h
          have w := ih fv (upd r2.1 3 (r2.1 3 + 1)) r2.2 J L (wb_mm K 18 k) (y + 1) R S (ht.cg rfl rfl (fun _ _ _ => rfl) rfl rfl (fun j hj => ?_)) (er.cg rfl rfl) qk h g
          · refine ⟨w.1, w.2.1, w.2.2.1, ?_⟩
            rw [w.2.2.2]
            show r2.1 0 = I 0
            exact ls.1.2.2.2
          · show (if j = 18 then k else K j) = K j
            rw [if_neg (by omega)]
/-! BEST of both -/
theorem t1000 : (1000 : Int32).toInt = 1000 := by decide
/-! WHOSE of both -/
/-! ERRORS of both -/
noncomputable def bb (p q r s : Bool) : Int32 := nI ((if p then 1 else 0) + (if q then 2 else 0) + (if r then 4 else 0) + (if s then 8 else 0))
/-- what a WANDERER adds -/
noncomputable def ecf (c : Int32) : Int32 := if c = -1 then 0 else 1
noncomputable def scf (s c : Int32) : Int32 := if c = -1 then 0 else if ((c >>> (s &&& 31)) &&& 1) = 1 then 1 else 0
noncomputable def acf (s c : Int32) : Int32 := if c = ((1 : Int32) <<< (s &&& 31)) then 1 else 0
noncomputable def wcf (s c : Int32) : Int32 := if scf s c = 0 then 0 else if (fJ6_bitCount_0f7a4 0 c).getD 0 ≤ 0 then 0 else 6 / (fJ6_bitCount_0f7a4 0 c).getD 0
/-! the reference's rows -/
noncomputable def up3 (K : Nat → Nat → Int32) (s : Nat) (p : Bool) (b : Int32) : Nat → Nat → Int32 := if p then wb_um (wb_um (wb_um K 20 s (K 20 s + 1)) 21 s (K 21 s + (if b = 1 then 1 else 0))) 22 s (K 22 s + 6 / b) else K
theorem up3_v {K : Nat → Nat → Int32} {s : Nat} {p : Bool} {b : Int32} (t : Nat) : up3 K s p b 20 t = (if t = s then K 20 t + (if p then 1 else 0) else K 20 t) ∧ up3 K s p b 21 t = (if t = s then K 21 t + (if p then (if b = 1 then 1 else 0) else 0) else K 21 t) ∧ up3 K s p b 22 t = (if t = s then K 22 t + (if p then 6 / b else 0) else K 22 t) := by
  unfold up3
  cases p with
  | false =>
    simp only [Bool.false_eq_true, if_false, z32, ite_self]
    exact ⟨trivial, trivial, trivial⟩
  | true =>
    simp only [if_true]
    refine ⟨?_, ?_, ?_⟩
    · show upd (K 20) s (K 20 s + 1) t = _
      unfold upd
      by_cases e : t = s
      · rw [if_pos e, if_pos e, e]
      · rw [if_neg e, if_neg e]
    · show upd (K 21) s (K 21 s + (if b = 1 then 1 else 0)) t = _
      unfold upd
      by_cases e : t = s
      · rw [if_pos e, if_pos e, e]
      · rw [if_neg e, if_neg e]
    · show upd (K 22) s (K 22 s + 6 / b) t = _
      unfold upd
      by_cases e : t = s
      · rw [if_pos e, if_pos e, e]
      · rw [if_neg e, if_neg e]
/-- a WANDERER's part in the rows: eight cases -/
theorem cod (q r s : Bool) : ecf (bb false q r s) = 1 ∧ (scf 1 (bb false q r s) = (if q then 1 else 0) ∧ scf 2 (bb false q r s) = (if r then 1 else 0) ∧ scf 3 (bb false q r s) = (if s then 1 else 0)) ∧ (∀ b : Int32, b = (0 : Int32) + (if q then 1 else 0) + (if r then 1 else 0) + (if s then 1 else 0) → (acf 1 (bb false q r s) = (if q then (if b = 1 then 1 else 0) else 0) ∧ acf 2 (bb false q r s) = (if r then (if b = 1 then 1 else 0) else 0) ∧ acf 3 (bb false q r s) = (if s then (if b = 1 then 1 else 0) else 0)) ∧ (wcf 1 (bb false q r s) = (if q then 6 / b else 0) ∧ wcf 2 (bb false q r s) = (if r then 6 / b else 0) ∧ wcf 3 (bb false q r s) = (if s then 6 / b else 0))) := by
  refine ⟨?_, ?_, fun b hb => ?_⟩
  · revert q r s; decide +kernel
  · revert q r s; decide +kernel
  · subst hb
    revert q r s; decide +kernel
theorem cod0 : ecf (-1) = 0 ∧ (scf 1 (-1) = 0 ∧ scf 2 (-1) = 0 ∧ scf 3 (-1) = 0) ∧ (acf 1 (-1) = 0 ∧ acf 2 (-1) = 0 ∧ acf 3 (-1) = 0) ∧ (wcf 1 (-1) = 0 ∧ wcf 2 (-1) = 0 ∧ wcf 3 (-1) = 0) := by decide +kernel
/-- the reference's rows hold the sums of the class's codes -/
noncomputable def EV (m : Nat → Int32) (K : Nat → Nat → Int32) (v : Int32) (k : Nat) : Prop := v = sm2 (fun j => ecf (m j)) k ∧ (K 20 1 = sm2 (fun j => scf 1 (m j)) k ∧ K 20 2 = sm2 (fun j => scf 2 (m j)) k ∧ K 20 3 = sm2 (fun j => scf 3 (m j)) k) ∧ (K 21 1 = sm2 (fun j => acf 1 (m j)) k ∧ K 21 2 = sm2 (fun j => acf 2 (m j)) k ∧ K 21 3 = sm2 (fun j => acf 3 (m j)) k) ∧ (K 22 1 = sm2 (fun j => wcf 1 (m j)) k ∧ K 22 2 = sm2 (fun j => wcf 2 (m j)) k ∧ K 22 3 = sm2 (fun j => wcf 3 (m j)) k)
theorem EV.zero {m : Nat → Int32} {K : Nat → Nat → Int32} {v : Int32} {k : Nat} (h : EV m K v k) (hc : m k = -1) : EV m K v (k + 1) := by
  obtain ⟨a, ⟨b1, b2, b3⟩, ⟨c1, c2, c3⟩, d1, d2, d3⟩ := h
  obtain ⟨q, ⟨r1, r2, r3⟩, ⟨s1, s2, s3⟩, t1, t2, t3⟩ := cod0
  have e : ∀ f : Int32 → Int32, f (-1) = 0 → sm2 (fun j => f (m j)) (k + 1) = sm2 (fun j => f (m j)) k := by
    intro f hf
    show sm2 (fun j => f (m j)) k + f (m k) = _
    rw [hc, hf, z32]
  exact ⟨by rw [e ecf q]; exact a, ⟨by rw [e (scf 1) r1]; exact b1, by rw [e (scf 2) r2]; exact b2, by rw [e (scf 3) r3]; exact b3⟩, ⟨by rw [e (acf 1) s1]; exact c1, by rw [e (acf 2) s2]; exact c2, by rw [e (acf 3) s3]; exact c3⟩, by rw [e (wcf 1) t1]; exact d1, by rw [e (wcf 2) t2]; exact d2, by rw [e (wcf 3) t3]; exact d3⟩
theorem EV.add {m : Nat → Int32} {K : Nat → Nat → Int32} {v : Int32} {k : Nat} {p q r : Bool} {b : Int32} (h : EV m K v k) (hc : m k = bb false p q r) (hb : b = (0 : Int32) + (if p then 1 else 0) + (if q then 1 else 0) + (if r then 1 else 0)) : EV m (up3 (up3 (up3 K 1 p b) 2 q b) 3 r b) (v + 1) (k + 1) := by
  obtain ⟨a, ⟨b1, b2, b3⟩, ⟨c1, c2, c3⟩, d1, d2, d3⟩ := h
  obtain ⟨x, ⟨r1, r2, r3⟩, y⟩ := cod p q r
  obtain ⟨⟨s1, s2, s3⟩, t1, t2, t3⟩ := y b hb
  have e : ∀ (f : Int32 → Int32) (z w : Int32), f (bb false p q r) = z → w = sm2 (fun j => f (m j)) k → w + z = sm2 (fun j => f (m j)) (k + 1) := by
    intro f z w hf hw
    show _ = sm2 (fun j => f (m j)) k + f (m k)
    rw [hc, hf, hw]
  have u : ∀ (j t : Nat), (j = 20 ∨ j = 21 ∨ j = 22) → (t = 1 ∨ t = 2 ∨ t = 3) → up3 (up3 (up3 K 1 p b) 2 q b) 3 r b j t = K j t + (if j = 20 then (if (if t = 1 then p else if t = 2 then q else r) then 1 else 0) else if j = 21 then (if (if t = 1 then p else if t = 2 then q else r) then (if b = 1 then 1 else 0) else 0) else (if (if t = 1 then p else if t = 2 then q else r) then 6 / b else 0)) := by
    intro j t hj ht
    have v1 := up3_v (K := K) (s := 1) (p := p) (b := b) t
    have v2 := up3_v (K := up3 K 1 p b) (s := 2) (p := q) (b := b) t
    have v3 := up3_v (K := up3 (up3 K 1 p b) 2 q b) (s := 3) (p := r) (b := b) t
    rcases hj with rfl | rfl | rfl
    · rw [v3.1, v2.1, v1.1]
      rcases ht with rfl | rfl | rfl <;> simp
    · rw [v3.2.1, v2.2.1, v1.2.1]
      rcases ht with rfl | rfl | rfl <;> simp
    · rw [v3.2.2, v2.2.2, v1.2.2]
      rcases ht with rfl | rfl | rfl <;> simp
  refine ⟨e ecf 1 v x a, ⟨?_, ?_, ?_⟩, ⟨?_, ?_, ?_⟩, ?_, ?_, ?_⟩
  · rw [u 20 1 (by omega) (by omega)]; exact e (scf 1) _ _ r1 b1
  · rw [u 20 2 (by omega) (by omega)]; exact e (scf 2) _ _ r2 b2
  · rw [u 20 3 (by omega) (by omega)]; exact e (scf 3) _ _ r3 b3
  · rw [u 21 1 (by omega) (by omega)]; exact e (acf 1) _ _ s1 c1
  · rw [u 21 2 (by omega) (by omega)]; exact e (acf 2) _ _ s2 c2
  · rw [u 21 3 (by omega) (by omega)]; exact e (acf 3) _ _ s3 c3
  · rw [u 22 1 (by omega) (by omega)]; exact e (wcf 1) _ _ t1 d1
  · rw [u 22 2 (by omega) (by omega)]; exact e (wcf 2) _ _ t2 d2
  · rw [u 22 3 (by omega) (by omega)]; exact e (wcf 3) _ _ t3 d3
/-! ahead of the answers -/
theorem bg8 {N : Nat} {I : Nat → Int32} {M : Nat → Nat → Int32} {a b c : Int32} {r : (Nat → Int32) × (Nat → Nat → Int32)} (h : fX8_begin N I M a b c = some r) : r.1 0 = 1 ∧ r.1 1 = a ∧ r.1 2 = b ∧ r.1 3 = c ∧ r.1 4 = 1000 ∧ r.1 5 = 0 ∧ r.1 6 = -1 ∧ r.2 = M := by
  unfold fX8_begin at h
  have h := Option.some.inj h
  rw [← h]
  exact ⟨rfl, rfl, rfl, rfl, rfl, rfl, rfl, rfl⟩
/-- the latest BEST of both -/
noncomputable def QBR (I : Nat → Int32) (M : Nat → Nat → Int32) (J : Nat → Int32) (K : Nat → Nat → Int32) : Prop := (I 13 = 0 ∧ J 15 = -1) ∨ (I 13 = 1 ∧ I 18 = J 15 ∧ 1 ≤ (I 18).toInt ∧ ∀ j : Nat, j < 20 → (j : Int) < (I 18).toInt → M 16 j = K 17 j)
theorem QBR.cg {I I' J J' : Nat → Int32} {M M' K K' : Nat → Nat → Int32} (h : QBR I M J K) (a : I' 13 = I 13) (b : I' 18 = I 18) (c : M' 16 = M 16) (d : J' 15 = J 15) (e : K' 17 = K 17) : QBR I' M' J' K' := by
  unfold QBR at h ⊢
  rw [a, b, c, d, e]
  exact h
/-! SEARCH, image, LEAVES, outcomes: relations and answers -/
noncomputable def QSR (I : Nat → Int32) (M : Nat → Nat → Int32) (J : Nat → Int32) (K : Nat → Nat → Int32) : Prop := I 27 = J 16 ∧ (¬ I 27 = 0 → QS (wb_sh I 27) (M 18) (K 18))
noncomputable def QIR (I : Nat → Int32) (M : Nat → Nat → Int32) (J : Nat → Int32) (K : Nat → Nat → Int32) : Prop := I 34 = J 17 ∧ (¬ I 34 = 0 → QS (wb_sh I 34) (M 19) (K 19))
noncomputable def QL (I : Nat → Int32) (M : Nat → Nat → Int32) (J : Nat → Int32) (K : Nat → Nat → Int32) : Prop := ∀ b : Nat, b < 6 → M 24 b = K 27 b ∧ ∀ i : Nat, (i : Int) < (K 27 b).toInt → M 23 (20 * b + i) = K 28 (20 * b + i)
noncomputable def QO (I : Nat → Int32) (M : Nat → Nat → Int32) (J : Nat → Int32) (K : Nat → Nat → Int32) : Prop := OR M K
theorem QS.cg {i i' m m' k : Nat → Int32} (h : QS i m k) (a : ∀ j, j < 7 → i' j = i j) (b : m' 0 = m 0) : QS i' m' k := by
  unfold QS at h ⊢
  rw [a 1 (by omega), a 2 (by omega), a 3 (by omega), a 4 (by omega), a 5 (by omega), a 6 (by omega), b]
  exact h
theorem QSR.cg {I I' J J' : Nat → Int32} {M M' K K' : Nat → Nat → Int32} (h : QSR I M J K) (a : ∀ j, j < 34 → 27 ≤ j → I' j = I j) (c : M' 18 = M 18) (d : J' 16 = J 16) (e : K' 18 = K 18) : QSR I' M' J' K' := by
  unfold QSR at h ⊢
  rw [a 27 (by omega) (by omega), c, d, e]
  exact ⟨h.1, fun z => (h.2 z).cg (fun j hj => a (j + 27) (by omega) (by omega)) rfl⟩
theorem QIR.cg {I I' J J' : Nat → Int32} {M M' K K' : Nat → Nat → Int32} (h : QIR I M J K) (a : ∀ j, j < 41 → 34 ≤ j → I' j = I j) (c : M' 19 = M 19) (d : J' 17 = J 17) (e : K' 19 = K 19) : QIR I' M' J' K' := by
  unfold QIR at h ⊢
  rw [a 34 (by omega) (by omega), c, d, e]
  exact ⟨h.1, fun z => (h.2 z).cg (fun j hj => a (j + 34) (by omega) (by omega)) rfl⟩
theorem QL.cg {I I' J J' : Nat → Int32} {M M' K K' : Nat → Nat → Int32} (h : QL I M J K) (a : M' 23 = M 23) (b : M' 24 = M 24) (c : K' 27 = K 27) (d : K' 28 = K 28) : QL I' M' J' K' := by
  unfold QL at h ⊢
  rw [a, b, c, d]
  exact h
theorem QO.cg {I I' J J' : Nat → Int32} {M M' K K' : Nat → Nat → Int32} (h : QO I M J K) (a : M' 28 = M 28) (b : M' 29 = M 29) (c : M' 30 = M 30) (d : K' 32 = K 32) (e : K' 33 = K 33) (f : K' 34 = K 34) : QO I' M' J' K' := by
  unfold QO OR at h ⊢
  rw [a, b, c, d, e, f]
  exact h
theorem QSR_fresh : QSR fx_I fx_M fm_I fm_M := ⟨by decide, fun z => absurd (show fx_I 27 = 0 by decide) z⟩
theorem QIR_fresh : QIR fx_I fx_M fm_I fm_M := ⟨by decide, fun z => absurd (show fx_I 34 = 0 by decide) z⟩
/-! DAYS that are kept -/
/-- an image of the SEARCH -/
theorem cp8 {N : Nat} {I I2 : Nat → Int32} {M M2 : Nat → Nat → Int32} {r : (Nat → Int32) × (Nat → Nat → Int32)} (h : fX8_copyFrom N I M I2 M2 = some r) : (∀ j, j < 7 → r.1 j = I2 j) ∧ ∀ j, j < 20 → r.2 0 j = M2 0 j := by
  unfold fX8_copyFrom at h
  obtain ⟨-, h⟩ := wb_n h
  obtain ⟨a1, e1, h⟩ := wb_v h
  obtain ⟨a2, e2, h⟩ := wb_v h
  obtain ⟨a3, e3, h⟩ := wb_v h
  obtain ⟨a4, e4, h⟩ := wb_v h
  obtain ⟨a5, e5, h⟩ := wb_v h
  obtain ⟨a6, e6, h⟩ := wb_v h
  obtain ⟨a7, e7, h⟩ := wb_v h
  obtain ⟨-, h⟩ := wb_n h
  obtain ⟨m8, e8, h⟩ := wb_v h
  have h := Option.some.inj h
  rw [← h]
  refine ⟨fun j hj => ?_, fun j hj => ?_⟩
  · show a7 j = I2 j
    rw [e7, e6, e5, e4, e3, e2, e1]
    rcases (by omega : j = 0 ∨ j = 1 ∨ j = 2 ∨ j = 3 ∨ j = 4 ∨ j = 5 ∨ j = 6) with z | z | z | z | z | z | z <;> subst z <;> rfl
  · show m8 0 j = M2 0 j
    rw [e8]
    show va_cpy (M2 0) (M 0) 0 0 20 j = _
    exact cpy0 hj
theorem an_image {N : Nat} {I0 I1 : Nat → Int32} {M0 M1 : Nat → Nat → Int32} {L1 : Int64} {r : Int32 × (Nat → Int32) × (Nat → Nat → Int32)} {s : Int32 × (Nat → Int32) × Int64 × (Nat → Nat → Int32)} (k0 : KX11 I0 M0) (e1 : fX11_image N I0 M0 = some r) (e3 : fX12_image N I1 L1 M1 = some s) (hs : QSR I0 M0 I1 M1) (hi : QIR I0 M0 I1 M1) : r.1 = s.1 ∧ QIR r.2.1 r.2.2 s.2.1 s.2.2.2 := by
  unfold fX11_image at e1
  unfold fX12_image at e3
  obtain ⟨J, eJ, g⟩ := wb_v e3
  rcases ifr e1 with ⟨c, h⟩ | ⟨c, h⟩
  · have c2 : J 16 = 0 := by rw [eJ]; show I1 16 = 0; rw [← hs.1]; exact c
    have g := Option.some.inj (wb_t c2 g)
    rw [← Option.some.inj h, ← g, eJ]
    exact ⟨rfl, hi⟩
  · have c2 : ¬ J 16 = 0 := by rw [eJ]; show ¬ I1 16 = 0; rw [← hs.1]; exact c
    have g := wb_f c2 g
    obtain ⟨J2, eJ2, g⟩ := wb_v g
    obtain ⟨r3, f3, g⟩ := wb_b g
    obtain ⟨K4, eK, g⟩ := wb_v g
    obtain ⟨r1, f1, h⟩ := wb_b h
    obtain ⟨I2, eI, h⟩ := wb_v h
    obtain ⟨M3, eM, h⟩ := wb_v h
    obtain ⟨k1, k2⟩ := cp8 f1
    have k3 := cp12 (by decide) f3
    rw [← Option.some.inj h, ← Option.some.inj g]
    have q := hs.2 c
    have i2 : ∀ j, j < 7 → I2 (j + 34) = wb_sh I0 27 j := by
      intro j hj
      rw [eI, wbi_in (by omega) (by omega), Nat.add_sub_cancel]
      exact k1 j hj
    refine ⟨rfl, ?_, fun _ => ?_⟩
    · show I2 34 = J2 17
      rw [show I2 34 = wb_sh I0 27 0 from i2 0 (by omega), eJ2]
      show I0 27 = 1
      have i27 := k0.i27
      have n27 : ¬ (I0 27).toInt = 0 := fun z => c (t32 (by rw [z, ni0]))
      exact t32 (by rw [ni1]; omega)
    · have m0 : M3 19 0 = M0 18 0 := by
        rw [eM, wbi_in (by omega) (by omega)]
        exact k2 0 (by omega)
      have kk : ∀ j, j < 7 → K4 19 j = M1 18 j := by
        intro j hj
        rw [eK]
        exact k3 j hj
      have q2 : QS (wb_sh I2 34) (M3 19) (M1 18) := q.cg (fun j hj => i2 j hj) m0
      show QS (wb_sh I2 34) (M3 19) (K4 19)
      unfold QS at q2 ⊢
      rw [kk 0 (by omega), kk 1 (by omega), kk 2 (by omega), kk 3 (by omega), kk 4 (by omega), kk 5 (by omega), kk 6 (by omega)]
      exact q2
theorem an_restore {N : Nat} {I0 I1 : Nat → Int32} {M0 M1 : Nat → Nat → Int32} {L1 : Int64} {r : Int32 × (Nat → Int32) × (Nat → Nat → Int32)} {s : Int32 × (Nat → Int32) × Int64 × (Nat → Nat → Int32)} (k0 : KX11 I0 M0) (e1 : fX11_restore N I0 M0 = some r) (e3 : fX12_restore N I1 L1 M1 = some s) (hs : QSR I0 M0 I1 M1) (hi : QIR I0 M0 I1 M1) : r.1 = s.1 ∧ QSR r.2.1 r.2.2 s.2.1 s.2.2.2 := by
  unfold fX11_restore at e1
  unfold fX12_restore at e3
  obtain ⟨J, eJ, g⟩ := wb_v e3
  rcases ifr e1 with ⟨c, h⟩ | ⟨c, h⟩
  · have c2 : J 17 = 0 := by rw [eJ]; show I1 17 = 0; rw [← hi.1]; exact c
    have g := Option.some.inj (wb_t c2 g)
    rw [← Option.some.inj h, ← g, eJ]
    exact ⟨rfl, hs⟩
  · have c2 : ¬ J 17 = 0 := by rw [eJ]; show ¬ I1 17 = 0; rw [← hi.1]; exact c
    have g := wb_f c2 g
    obtain ⟨J2, eJ2, g⟩ := wb_v g
    obtain ⟨r3, f3, g⟩ := wb_b g
    obtain ⟨K4, eK, g⟩ := wb_v g
    obtain ⟨r1, f1, h⟩ := wb_b h
    obtain ⟨I2, eI, h⟩ := wb_v h
    obtain ⟨M3, eM, h⟩ := wb_v h
    obtain ⟨k1, k2⟩ := cp8 f1
    have k3 := cp12 (by decide) f3
    rw [← Option.some.inj h, ← Option.some.inj g]
    have q := hi.2 c
    have i2 : ∀ j, j < 7 → I2 (j + 27) = wb_sh I0 34 j := by
      intro j hj
      rw [eI, wbi_in (by omega) (by omega), Nat.add_sub_cancel]
      exact k1 j hj
    refine ⟨rfl, ?_, fun _ => ?_⟩
    · show I2 27 = J2 16
      rw [show I2 27 = wb_sh I0 34 0 from i2 0 (by omega), eJ2]
      show I0 34 = 1
      have i34 := k0.i34
      have n34 : ¬ (I0 34).toInt = 0 := fun z => c (t32 (by rw [z, ni0]))
      exact t32 (by rw [ni1]; omega)
    · have m0 : M3 18 0 = M0 19 0 := by
        rw [eM, wbi_in (by omega) (by omega)]
        exact k2 0 (by omega)
      have kk : ∀ j, j < 7 → K4 18 j = M1 19 j := by
        intro j hj
        rw [eK]
        exact k3 j hj
      have q2 : QS (wb_sh I2 27) (M3 18) (M1 19) := q.cg (fun j hj => i2 j hj) m0
      show QS (wb_sh I2 27) (M3 18) (K4 18)
      unfold QS at q2 ⊢
      rw [kk 0 (by omega), kk 1 (by omega), kk 2 (by omega), kk 3 (by omega), kk 4 (by omega), kk 5 (by omega), kk 6 (by omega)]
      exact q2
/-- a SEARCH begins -/
theorem hx_seek {N : Nat} {I0 I1 : Nat → Int32} {M0 M1 : Nat → Nat → Int32} {L1 : Int64} {x1 x2 x3 x4 : Int32} {r : Int32 × (Nat → Int32) × (Nat → Nat → Int32)} {s : (Nat → Int32) × Int64 × (Nat → Nat → Int32)} (e1 : fL_seek N I0 M0 x1 x2 x3 x4 = some r) (e3 : fX12_seek N I1 L1 M1 x1 x2 x3 x4 = some s) (hs : QSR I0 M0 I1 M1) : QSR r.2.1 r.2.2 s.1 s.2.2 := by
  unfold fL_seek at e1
  unfold fX12_seek at e3
  obtain ⟨s10, g10, g⟩ := wb_b e3
  have same : fX11_seek N I0 M0 x1 x2 x3 x4 = some (.inl 1) → r.2.1 = I0 ∧ r.2.2 = M0 := by
    intro e
    rcases fr_hp e1 with ⟨k, e', h⟩ | ⟨a, e', h⟩
    · obtain ⟨c, h⟩ := wb_y h
      rw [← Option.some.inj h]
      exact ⟨rfl, rfl⟩
    · rw [e] at e'
      cases e'
  have cj : ∀ (b : Int32), (¬ b = 0 → BW x1 x2 ∧ (0 ≤ x3.toInt ∧ x3.toInt ≤ 3) ∧ 0 ≤ x4.toInt ∧ x4.toInt ≤ 1000000) → fX11_seek_J29 N x1 x2 x3 x4 I0 M0 ((20 : Int32) * x1 + x2) b = fX11_seek N I0 M0 x1 x2 x3 x4 → fX12_seek_J35 N x1 x2 x3 x4 (upd I1 0 0) L1 M1 b = some s → QSR r.2.1 r.2.2 s.1 s.2.2 := by
    intro b hb e g
    unfold fX12_seek_J35 at g
    obtain ⟨r1, f1, g⟩ := wb_b g
    rcases rt12 (J := upd I1 0 0) rfl (by decide) f1 with ⟨z, y⟩ | ⟨z, y⟩
    · subst y
      have g := wb_f (c := (1 : Int32) = 0) (by decide) g
      obtain ⟨J2, eJ2, g⟩ := wb_v g
      rw [k12_0, k12_1, k12_2, k12_3, k12_4, k12_5, k12_6] at g
      obtain ⟨-, g⟩ := wb_n g
      obtain ⟨m3, e3, g⟩ := wb_v g
      obtain ⟨-, g⟩ := wb_n g
      obtain ⟨m4, e4, g⟩ := wb_v g
      obtain ⟨-, g⟩ := wb_n g
      obtain ⟨m5, e5, g⟩ := wb_v g
      obtain ⟨-, g⟩ := wb_n g
      obtain ⟨m6, e6, g⟩ := wb_v g
      obtain ⟨-, g⟩ := wb_n g
      obtain ⟨m7, e7, g⟩ := wb_v g
      obtain ⟨-, g⟩ := wb_n g
      obtain ⟨m8, e8, g⟩ := wb_v g
      obtain ⟨-, g⟩ := wb_n g
      obtain ⟨m9, e9, g⟩ := wb_v g
      have g := Option.some.inj g
      obtain ⟨⟨b1, b2⟩, b3, b4⟩ := hb z
      have e2 := e.symm
      unfold fX11_seek_J29 at e2
      rcases fr_hp e1 with ⟨k, e', h⟩ | ⟨a, e', h⟩
      · rw [e2] at e'
        rcases nd11 e' with ⟨w, -⟩ | ⟨-, h2⟩
        · exact absurd w z
        · obtain ⟨R, hR, -⟩ := oki h2
          cases hR
      · rw [e2] at e'
        rcases nd11 e' with ⟨w, -⟩ | ⟨-, h2⟩
        · exact absurd w z
        · obtain ⟨R, hR, h2⟩ := oki h2
          have hR := Sum.inr.inj hR
          subst hR
          obtain ⟨r2, f2, h2⟩ := wb_b h2
          obtain ⟨I3, eI, h2⟩ := wb_v h2
          obtain ⟨M4, eM, h2⟩ := wb_v h2
          obtain ⟨p0, p1, p2, p3, p4, p5, p6, p7⟩ := bg8 f2
          have i3 : ∀ j, j < 7 → I3 (j + 27) = r2.1 j := by
            intro j hj
            rw [eI, wbi_in (by omega) (by omega), Nat.add_sub_cancel]
          have t20 : (20 : Int32).toInt = 20 := by decide
          have m1 := ia_mul 20 20 t20 x1 (by omega) (by omega)
          have s1 := ia_add ((20 : Int32) * x1) x2 (by omega) (by omega)
          rw [← Option.some.inj h, ← Option.some.inj h2, ← g]
          refine ⟨?_, fun _ => ⟨?_, ?_, ?_, ?_, ?_, ?_, Or.inl ⟨?_, ?_, ?_, ?_, ?_, ?_, ?_⟩⟩⟩
          · show I3 27 = J2 16
            rw [show I3 27 = r2.1 0 from i3 0 (by omega), p0, eJ2]
            rfl
          · show I3 28 = m9 18 0
            rw [show I3 28 = r2.1 1 from i3 1 (by omega), p1, e9, e8, e7, e6, e5, e4, e3]
            rfl
          · show I3 29 = m9 18 1
            rw [show I3 29 = r2.1 2 from i3 2 (by omega), p2, e9, e8, e7, e6, e5, e4, e3]
            rfl
          · show I3 30 = m9 18 2
            rw [show I3 30 = r2.1 3 from i3 3 (by omega), p3, e9, e8, e7, e6, e5, e4, e3]
            rfl
          · show 0 ≤ (I3 28).toInt ∧ (I3 28).toInt ≤ 119
            rw [show I3 28 = r2.1 1 from i3 1 (by omega), p1]
            omega
          · show 0 ≤ (I3 29).toInt ∧ (I3 29).toInt ≤ 3
            rw [show I3 29 = r2.1 2 from i3 2 (by omega), p2]
            exact b3
          · show 0 ≤ (I3 30).toInt ∧ (I3 30).toInt ≤ 1000001
            rw [show I3 30 = r2.1 3 from i3 3 (by omega), p3]
            omega
          · show I3 31 = 1000
            rw [show I3 31 = r2.1 4 from i3 4 (by omega), p4]
          · show I3 32 = 0
            rw [show I3 32 = r2.1 5 from i3 5 (by omega), p5]
          · show I3 33 = -1
            rw [show I3 33 = r2.1 6 from i3 6 (by omega), p6]
          · rw [e9, e8, e7, e6, e5, e4, e3]; rfl
          · rw [e9, e8, e7, e6, e5, e4, e3]; rfl
          · rw [e9, e8, e7, e6, e5, e4, e3]; rfl
          · rw [e9, e8, e7, e6, e5, e4, e3]; rfl
    · subst y
      have g := wb_t (c := (0 : Int32) = 0) rfl g
      have e2 := e.symm
      unfold fX11_seek_J29 at e2
      rw [z, need0] at e2
      obtain ⟨q1, q2⟩ := same e2
      rw [q1, q2, ← Option.some.inj g]
      exact hs
  rcases iw12 g10 with ⟨hb, q⟩ | ⟨hb, q⟩
  · subst q
    have g := wb_f (c := (1 : Int32) = 0) (by decide) g
    have cn : fX11_numberOf N x1 x2 = some (.inr ((20 : Int32) * x1 + x2)) := by
      rcases fr_hp e1 with ⟨k, e', h⟩ | ⟨a, e', h⟩
      · unfold fX11_seek at e'
        rcases xbi e' with ⟨k2, f, -⟩ | ⟨n, f, -⟩
        · rcases nb11 f with ⟨-, z⟩ | ⟨z, -⟩
          · cases z
          · exact absurd hb z
        · rcases nb11 f with ⟨-, z⟩ | ⟨z, -⟩
          · rw [f, z]
          · exact absurd hb z
      · unfold fX11_seek at e'
        rcases xbi e' with ⟨k2, f, -⟩ | ⟨n, f, -⟩
        · rcases nb11 f with ⟨-, z⟩ | ⟨z, -⟩
          · cases z
          · exact absurd hb z
        · rcases nb11 f with ⟨-, z⟩ | ⟨z, -⟩
          · rw [f, z]
          · exact absurd hb z
    obtain ⟨s11, g11, g⟩ := wb_b g
    have w11 : fX11_within N x3 0 3 = some s11 := by rw [wn11, ← g11, wn12]
    rcases ck_within12 0 3 (by decide) (by decide) g11 with ⟨q, c⟩ | ⟨q, c⟩
    · have g := wb_f (by rw [q]; decide) g
      obtain ⟨s12, g12, g⟩ := wb_b g
      have w12 : fX11_isDay N x4 = some s12 := by
        unfold fX11_isDay
        rw [wn11, ← wn12 (N := N), g12]
        show (if s12 &&& 1 = s12 then some s12 else none) = some s12
        rcases ck_within12 0 1000000 (by decide) (by decide) g12 with ⟨q, -⟩ | ⟨q, -⟩ <;> rw [q] <;> rfl
      rcases ck_within12 0 1000000 (by decide) (by decide) g12 with ⟨q2, c2⟩ | ⟨q2, c2⟩
      · have g := wb_f (by rw [q2]; decide) g
        refine cj 1 (fun _ => ⟨hb, c, c2⟩) ?_ g
        unfold fX11_seek
        rw [cn]
        show _ = (fX11_within N x3 0 3).bind _
        rw [w11, Option.bind_some, if_neg (by rw [q]; decide), w12, Option.bind_some, if_neg (by rw [q2]; decide)]
      · have g := wb_t q2 g
        unfold fX12_seek_J34 at g
        refine cj 0 (fun z => absurd rfl z) ?_ g
        unfold fX11_seek
        rw [cn]
        show _ = (fX11_within N x3 0 3).bind _
        rw [w11, Option.bind_some, if_neg (by rw [q]; decide), w12, Option.bind_some, if_pos q2]
        rfl
    · have g := wb_t q g
      unfold fX12_seek_J34 at g
      refine cj 0 (fun z => absurd rfl z) ?_ g
      unfold fX11_seek
      rw [cn]
      show _ = (fX11_within N x3 0 3).bind _
      rw [w11, Option.bind_some, if_pos q]
      rfl
  · subst q
    have g := Option.some.inj (wb_t (c := (0 : Int32) = 0) rfl g)
    have e2 : fX11_seek N I0 M0 x1 x2 x3 x4 = some (.inl 1) := by
      rcases fr_hp e1 with ⟨k, e', h⟩ | ⟨a, e', h⟩
      · have e'' := e'
        unfold fX11_seek at e''
        rcases xbi e'' with ⟨k2, f, f2⟩ | ⟨n, f, -⟩
        · rcases nb11 f with ⟨z, -⟩ | ⟨-, z⟩
          · exact absurd z hb
          · rw [e', f2, Sum.inl.inj z]
        · rcases nb11 f with ⟨z, -⟩ | ⟨-, z⟩
          · exact absurd z hb
          · cases z
      · unfold fX11_seek at e'
        rcases xbi e' with ⟨k2, f, f2⟩ | ⟨n, f, -⟩
        · cases f2
        · rcases nb11 f with ⟨z, -⟩ | ⟨-, z⟩
          · exact absurd z hb
          · cases z
    obtain ⟨q1, q2⟩ := same e2
    rw [q1, q2, ← g]
    exact hs
/-! LEAVES -/
/-! how many -/
theorem an_on {N : Nat} (hN : 3000000000 ≤ N) {I0 I1 : Nat → Int32} {M0 M1 : Nat → Nat → Int32} {L1 : Int64} {x1 : Int32} {o : Nat → Int64} {r : Int32 × (Nat → Int32) × (Nat → Nat → Int32) × (Nat → Int64)} {s : Int32 × (Nat → Int32) × Int64 × (Nat → Nat → Int32)} (k0 : KX11 I0 M0) (k1 : KX12 I1 M1) (e1 : fL_on N I0 M0 x1 o = some r) (e3 : fX12_on N I1 L1 M1 x1 = some s) (hr : RR I0 M0 I1 M1) (hx : QSR I0 M0 I1 M1) : (s.2.1 0 = r.1 ∧ (r.1 = 0 → r.2.2.2 0 = s.1.toInt64)) ∧ QSR r.2.1 r.2.2.1 s.2.1 s.2.2.2 := by
  unfold fL_on at e1
  have hr0 := hr.j0 0
  have u1 : (upd I1 0 0 1).toInt = (I1 1).toInt := rfl
  have ht := hr.2.2
  have er := hr.2.1
  have h91 := congrArg Int32.toInt ht.1
  have u2 : (((1 : Int32), upd I1 0 0, L1, M1).snd.fst 1).toInt = (I1 1).toInt := rfl
  have i9 := k0.i9
  have u16 : (upd I1 0 0 16).toInt = (I1 16).toInt := rfl
  have hf := congrArg Int32.toInt hx.1
  have i27 := k0.i27
  have key : ∀ q, fX11_on N I0 M0 x1 = some q → (q = .inl 1 ∧ s.2.1 0 = 1 ∧ QSR I0 M0 s.2.1 s.2.2.2) ∨ (q = .inl 2 ∧ s.2.1 0 = 2 ∧ QSR I0 M0 s.2.1 s.2.2.2) ∨ ∃ a, q = .inr a ∧ s.2.1 0 = 0 ∧ a.1 = s.1 ∧ QSR a.2.1 a.2.2 s.2.1 s.2.2.2 := by
    intro q h
    unfold fX11_on at h
    rcases nd11 h with ⟨c1, h⟩ | ⟨c1, h⟩
    · have c1 := (eq32 rfl (by decide : (0 : Int32).toInt = 0)).mp c1
      have g := e3
      unfold fX12_on at g
      obtain ⟨J2, eJ3, g⟩ := wb_v g
      subst eJ3
      obtain ⟨r4, e5, g⟩ := wb_b g
      rcases rt12 rfl (by decide) e5 with ⟨c7, q6⟩ | ⟨c7, q6⟩
      · have c7 : ¬ _ := fun z => c7 ((eq32 rfl (by decide : (0 : Int32).toInt = 0)).mpr z)
        subst q6
        have g := wb_f (c := (1 : Int32) = 0) (by decide) g
        obtain ⟨r8, e9, g⟩ := wb_b g
        rcases ck_within12 (0) (50000) (by decide) (by decide) e9 with ⟨q10, c11⟩ | ⟨q10, c11⟩
        · obtain ⟨r12, e13, g⟩ := wb_b g
          rcases rt12 rfl (by decide) e13 with ⟨c15, q14⟩ | ⟨c15, q14⟩
          · subst q14
            have g := wb_f (c := (1 : Int32) = 0) (by decide) g
            exfalso
            omega
          · exact absurd c15 (by rw [q10]; decide)
        · obtain ⟨r16, e17, g⟩ := wb_b g
          rcases rt12 rfl (by decide) e17 with ⟨c19, q18⟩ | ⟨c19, q18⟩
          · exact absurd q10 c19
          · subst q18
            have g := wb_t (c := (0 : Int32) = 0) rfl g
            have g := Option.some.inj g
            subst g
            exfalso
            omega
      · have c7 := (eq32 rfl (by decide : (0 : Int32).toInt = 0)).mp c7
        subst q6
        have g := wb_t (c := (0 : Int32) = 0) rfl g
        have g := Option.some.inj g
        subst g
        exact Or.inl ⟨h, rfl, hx⟩
    · have c1 : ¬ _ := fun z => c1 ((eq32 rfl (by decide : (0 : Int32).toInt = 0)).mpr z)
      obtain ⟨r20, e21, h⟩ := wb_b h
      rcases ck_within (0) (50000) (by decide) (by decide) e21 with ⟨q22, c23⟩ | ⟨q22, c23⟩
      · rcases al11 h with ⟨c24, h⟩ | ⟨c24, h⟩
        · exact absurd c24 (by rw [q22]; decide)
        · obtain ⟨a, ha, h⟩ := oki h
          have g := e3
          unfold fX12_on at g
          obtain ⟨J25, eJ26, g⟩ := wb_v g
          subst eJ26
          obtain ⟨r27, e28, g⟩ := wb_b g
          rcases rt12 rfl (by decide) e28 with ⟨c30, q29⟩ | ⟨c30, q29⟩
          · have c30 : ¬ _ := fun z => c30 ((eq32 rfl (by decide : (0 : Int32).toInt = 0)).mpr z)
            subst q29
            have g := wb_f (c := (1 : Int32) = 0) (by decide) g
            obtain ⟨r31, e32, g⟩ := wb_b g
            rcases ck_within12 (0) (50000) (by decide) (by decide) e32 with ⟨q33, c34⟩ | ⟨q33, c34⟩
            · obtain ⟨r35, e36, g⟩ := wb_b g
              rcases rt12 rfl (by decide) e36 with ⟨c38, q37⟩ | ⟨c38, q37⟩
              · subst q37
                have g := wb_f (c := (1 : Int32) = 0) (by decide) g
                obtain ⟨r4, f4, h⟩ := wb_b h
                obtain ⟨I5, e5, h⟩ := wb_v h
                obtain ⟨M6, e6, h⟩ := wb_v h
                have h := Option.some.inj h
                unfold fX8_goOn at f4
                have n27 : ¬ I0 27 = 0 := fun z => by
                  have z := congrArg Int32.toInt z
                  rw [ni0] at z
                  omega
                obtain ⟨w1, w2, w3, w4⟩ := on_l k0.m13 N N (wb_sh I0 27) (wb_sh M0 18) (upd I1 0 0) L1 M1 0 r4 s hr0.2.2 er (hx.2 n27) f4 g
                have i5 : ∀ j, j < 7 → I5 (j + 27) = r4.2.1 j := by
                  intro j hj
                  rw [e5, wbi_in (by omega) (by omega), Nat.add_sub_cancel]
                rw [← h] at ha
                refine Or.inr (Or.inr ⟨_, ha, by rw [w3]; rfl, w1, ?_, fun _ => ?_⟩)
                · show I5 27 = s.2.1 16
                  rw [show I5 27 = r4.2.1 0 from i5 0 (by omega), w4, w3]
                  exact hx.1
                · refine w2.cg (fun j hj => i5 j hj) ?_
                  show M6 18 0 = r4.2.2 0 0
                  rw [e6, wbi_in (by omega) (by omega)]
              · exact absurd c38 (by rw [q33]; decide)
            · obtain ⟨r39, e40, g⟩ := wb_b g
              rcases rt12 rfl (by decide) e40 with ⟨c42, q41⟩ | ⟨c42, q41⟩
              · exact absurd q33 c42
              · subst q41
                have g := wb_t (c := (0 : Int32) = 0) rfl g
                have g := Option.some.inj g
                subst g
                exfalso
                omega
          · have c30 := (eq32 rfl (by decide : (0 : Int32).toInt = 0)).mp c30
            subst q29
            have g := wb_t (c := (0 : Int32) = 0) rfl g
            have g := Option.some.inj g
            subst g
            exfalso
            omega
      · rcases al11 h with ⟨c43, h⟩ | ⟨c43, h⟩
        · have g := e3
          unfold fX12_on at g
          obtain ⟨J44, eJ45, g⟩ := wb_v g
          subst eJ45
          obtain ⟨r46, e47, g⟩ := wb_b g
          rcases rt12 rfl (by decide) e47 with ⟨c49, q48⟩ | ⟨c49, q48⟩
          · have c49 : ¬ _ := fun z => c49 ((eq32 rfl (by decide : (0 : Int32).toInt = 0)).mpr z)
            subst q48
            have g := wb_f (c := (1 : Int32) = 0) (by decide) g
            obtain ⟨r50, e51, g⟩ := wb_b g
            rcases ck_within12 (0) (50000) (by decide) (by decide) e51 with ⟨q52, c53⟩ | ⟨q52, c53⟩
            · obtain ⟨r54, e55, g⟩ := wb_b g
              rcases rt12 rfl (by decide) e55 with ⟨c57, q56⟩ | ⟨c57, q56⟩
              · subst q56
                have g := wb_f (c := (1 : Int32) = 0) (by decide) g
                exfalso
                omega
              · exact absurd c57 (by rw [q52]; decide)
            · obtain ⟨r58, e59, g⟩ := wb_b g
              rcases rt12 rfl (by decide) e59 with ⟨c61, q60⟩ | ⟨c61, q60⟩
              · exact absurd q52 c61
              · subst q60
                have g := wb_t (c := (0 : Int32) = 0) rfl g
                have g := Option.some.inj g
                subst g
                exact Or.inr (Or.inl ⟨h, rfl, hx⟩)
          · have c49 := (eq32 rfl (by decide : (0 : Int32).toInt = 0)).mp c49
            subst q48
            have g := wb_t (c := (0 : Int32) = 0) rfl g
            have g := Option.some.inj g
            subst g
            exfalso
            omega
        · exact absurd q22 c43
  exact fin_2sx (P := fun I M => QSR I M s.2.1 s.2.2.2) e1 key
/-- class and reference side by side -/
def RQ (I0 : Nat → Int32) (M0 : Nat → Nat → Int32) (I1 : Nat → Int32) (M1 : Nat → Nat → Int32) : Prop := RR I0 M0 I1 M1 ∧ QSR I0 M0 I1 M1 ∧ QIR I0 M0 I1 M1 ∧ True
theorem RQ_fresh : RQ fx_I fx_M fm_I fm_M := ⟨RR_fresh, QSR_fresh, QIR_fresh, trivial⟩
theorem rq_feed {N : Nat} (hN : 3000000000 ≤ N) {I0 : Nat → Int32} {M0 : Nat → Nat → Int32} {I1 : Nat → Int32} {L1 : Int64} {M1 : Nat → Nat → Int32} {x1 : Int32} {x2 : Int32} {x3 : Int32} {x4 : Int32} {x5 : Int32} {r1} {r2} (e1 : fX11_feed N I0 M0 x1 x2 x3 x4 x5 = some r1) (e3 : fX12_feed N I1 L1 M1 x1 x2 x3 x4 x5 = some r2) (k0 : KX11 I0 M0) (k1 : KX12 I1 M1) (hr : RQ I0 M0 I1 M1) : RQ r1.2.1 r1.2.2 r2.2.1 r2.2.2.2 := by
  have f3 := fr_fX12_feed e3
  have f1 := fr_fX11_feed e1
  exact ⟨⟨hd_T_feed e1 e3 hr.1, hr.1.2.1.cg (f1.2 13 (by decide)) (f3.2 7 (by decide)), hr.1.2.2.cg (f1.1 9 (by decide)) (f1.1 10 (by decide)) (fun k h1 h2 => f1.2 k ((by decide : ∀ k, k < 7 → 1 ≤ k → ¬ k ∈ fwM_X11_feed) k h1 h2)) (f3.1 1 (by decide)) (f3.1 2 (by decide)) (fun k h1 => f3.2 k ((by decide : ∀ k, k < 7 → ¬ k ∈ fwM_X12_feed) k h1))⟩, (hr.2.1).cg (fun j h1 h2 => f1.1 j ((by decide : ∀ j, j < 34 → 27 ≤ j → ¬ j ∈ fwI_X11_feed) j h1 h2)) (f1.2 18 (by decide)) (f3.1 16 (by decide)) (f3.2 18 (by decide)), (hr.2.2.1).cg (fun j h1 h2 => f1.1 j ((by decide : ∀ j, j < 41 → 34 ≤ j → ¬ j ∈ fwI_X11_feed) j h1 h2)) (f1.2 19 (by decide)) (f3.1 17 (by decide)) (f3.2 19 (by decide)), trivial⟩
theorem rq_house {N : Nat} (hN : 3000000000 ≤ N) {I0 : Nat → Int32} {M0 : Nat → Nat → Int32} {I1 : Nat → Int32} {L1 : Int64} {M1 : Nat → Nat → Int32} {x1 : Int32} {o2 : Nat → Int64} {r1} {r3} (e1 : fL_house N I0 M0 x1 o2 = some r1) (e3 : fX12_house N I1 L1 M1 x1 = some r3) (k0 : KX11 I0 M0) (k1 : KX12 I1 M1) (hr : RQ I0 M0 I1 M1) : RQ r1.2.1 r1.2.2.1 r3.2.1 r3.2.2.2 := by
  have f3 := fr_fX12_house e3
  have f1 := fr_fL_house e1
  exact ⟨⟨(hs_house e1 e3 hr.1).1, hr.1.2.1.cg (f1.2 13 (by decide)) (f3.2 7 (by decide)), (hs_house e1 e3 hr.1).2⟩, (hr.2.1).cg (fun j h1 h2 => f1.1 j ((by decide : ∀ j, j < 34 → 27 ≤ j → ¬ j ∈ fwI_L_house) j h1 h2)) (f1.2 18 (by decide)) (f3.1 16 (by decide)) (f3.2 18 (by decide)), (hr.2.2.1).cg (fun j h1 h2 => f1.1 j ((by decide : ∀ j, j < 41 → 34 ≤ j → ¬ j ∈ fwI_L_house) j h1 h2)) (f1.2 19 (by decide)) (f3.1 17 (by decide)) (f3.2 19 (by decide)), trivial⟩
theorem rq_wheel {N : Nat} (hN : 3000000000 ≤ N) {I0 : Nat → Int32} {M0 : Nat → Nat → Int32} {I1 : Nat → Int32} {L1 : Int64} {M1 : Nat → Nat → Int32} {x1 : Int32} {x2 : Int32} {x3 : Int32} {o4 : Nat → Int64} {r1} {r3} (e1 : fL_wheel N I0 M0 x1 x2 x3 o4 = some r1) (e3 : fX12_wheel N I1 L1 M1 x1 x2 x3 = some r3) (k0 : KX11 I0 M0) (k1 : KX12 I1 M1) (hr : RQ I0 M0 I1 M1) : RQ r1.2.1 r1.2.2.1 r3.2.1 r3.2.2.2 := by
  have f3 := fr_fX12_wheel e3
  have f1 := fr_fL_wheel e1
  exact ⟨⟨(hs_wheel hN e1 e3 hr.1).1, (hs_wheel hN e1 e3 hr.1).2.1, hr.1.2.2.cg (f1.1 9 (by decide)) (f1.1 10 (by decide)) (fun k h1 h2 => f1.2 k ((by decide : ∀ k, k < 7 → 1 ≤ k → ¬ k ∈ fwM_L_wheel) k h1 h2)) (f3.1 1 (by decide)) (f3.1 2 (by decide)) (fun k h1 => f3.2 k ((by decide : ∀ k, k < 7 → ¬ k ∈ fwM_X12_wheel) k h1))⟩, (hr.2.1).cg (fun j h1 h2 => f1.1 j ((by decide : ∀ j, j < 34 → 27 ≤ j → ¬ j ∈ fwI_L_wheel) j h1 h2)) (f1.2 18 (by decide)) (f3.1 16 (by decide)) (f3.2 18 (by decide)), (hr.2.2.1).cg (fun j h1 h2 => f1.1 j ((by decide : ∀ j, j < 41 → 34 ≤ j → ¬ j ∈ fwI_L_wheel) j h1 h2)) (f1.2 19 (by decide)) (f3.1 17 (by decide)) (f3.2 19 (by decide)), trivial⟩
theorem rq_fault {N : Nat} (hN : 3000000000 ≤ N) {I0 : Nat → Int32} {M0 : Nat → Nat → Int32} {I1 : Nat → Int32} {L1 : Int64} {M1 : Nat → Nat → Int32} {r1} {r2} (e1 : fX11_fault N I0 M0  = some r1) (e3 : fX12_fault N I1 L1 M1  = some r2) (k0 : KX11 I0 M0) (k1 : KX12 I1 M1) (hr : RQ I0 M0 I1 M1) : RQ I0 M0 r2.2.1 r2.2.2.2 := by
  have f3 := fr_fX12_fault e3
  exact ⟨⟨hr.1.1.cg rfl (f3.1 3 (by decide)) rfl (f3.2 8 (by decide)), hr.1.2.1.cg rfl (f3.2 7 (by decide)), hr.1.2.2.cg rfl rfl (fun _ _ _ => rfl) (f3.1 1 (by decide)) (f3.1 2 (by decide)) (fun k h1 => f3.2 k ((by decide : ∀ k, k < 7 → ¬ k ∈ fwM_X12_fault) k h1))⟩, (hr.2.1).cg (fun _ _ _ => rfl) rfl (f3.1 16 (by decide)) (f3.2 18 (by decide)), (hr.2.2.1).cg (fun _ _ _ => rfl) rfl (f3.1 17 (by decide)) (f3.2 19 (by decide)), trivial⟩
theorem rq_count {N : Nat} (hN : 3000000000 ≤ N) {I0 : Nat → Int32} {M0 : Nat → Nat → Int32} {I1 : Nat → Int32} {L1 : Int64} {M1 : Nat → Nat → Int32} {x1 : Int32} {o2 : Nat → Int64} {r1} {r3} (e1 : fL_count N I0 M0 x1 o2 = some r1) (e3 : fX12_count N I1 L1 M1 x1 = some r3) (k0 : KX11 I0 M0) (k1 : KX12 I1 M1) (hr : RQ I0 M0 I1 M1) : RQ r1.2.1 r1.2.2.1 r3.2.1 r3.2.2.2 := by
  have f3 := fr_fX12_count e3
  have f1 := fr_fL_count e1
  exact ⟨⟨hr.1.1.cg (f1.1 0 (by decide)) (f3.1 3 (by decide)) (f1.2 0 (by decide)) (f3.2 8 (by decide)), hr.1.2.1.cg (f1.2 13 (by decide)) (f3.2 7 (by decide)), hr.1.2.2.cg (f1.1 9 (by decide)) (f1.1 10 (by decide)) (fun k h1 h2 => f1.2 k ((by decide : ∀ k, k < 7 → 1 ≤ k → ¬ k ∈ fwM_L_count) k h1 h2)) (f3.1 1 (by decide)) (f3.1 2 (by decide)) (fun k h1 => f3.2 k ((by decide : ∀ k, k < 7 → ¬ k ∈ fwM_X12_count) k h1))⟩, (hr.2.1).cg (fun j h1 h2 => f1.1 j ((by decide : ∀ j, j < 34 → 27 ≤ j → ¬ j ∈ fwI_L_count) j h1 h2)) (f1.2 18 (by decide)) (f3.1 16 (by decide)) (f3.2 18 (by decide)), (hr.2.2.1).cg (fun j h1 h2 => f1.1 j ((by decide : ∀ j, j < 41 → 34 ≤ j → ¬ j ∈ fwI_L_count) j h1 h2)) (f1.2 19 (by decide)) (f3.1 17 (by decide)) (f3.2 19 (by decide)), trivial⟩
theorem rq_place {N : Nat} (hN : 3000000000 ≤ N) {I0 : Nat → Int32} {M0 : Nat → Nat → Int32} {I1 : Nat → Int32} {L1 : Int64} {M1 : Nat → Nat → Int32} {x1 : Int32} {x2 : Int32} {x3 : Int32} {o4 : Nat → Int64} {r1} {r3} (e1 : fL_place N I0 M0 x1 x2 x3 o4 = some r1) (e3 : fX12_place N I1 L1 M1 x1 x2 x3 = some r3) (k0 : KX11 I0 M0) (k1 : KX12 I1 M1) (hr : RQ I0 M0 I1 M1) : RQ r1.2.1 r1.2.2.1 r3.2.1 r3.2.2.2 := by
  have f3 := fr_fX12_place e3
  have f1 := fr_fL_place e1
  exact ⟨⟨hr.1.1.cg (f1.1 0 (by decide)) (f3.1 3 (by decide)) (f1.2 0 (by decide)) (f3.2 8 (by decide)), hr.1.2.1.cg (f1.2 13 (by decide)) (f3.2 7 (by decide)), hr.1.2.2.cg (f1.1 9 (by decide)) (f1.1 10 (by decide)) (fun k h1 h2 => f1.2 k ((by decide : ∀ k, k < 7 → 1 ≤ k → ¬ k ∈ fwM_L_place) k h1 h2)) (f3.1 1 (by decide)) (f3.1 2 (by decide)) (fun k h1 => f3.2 k ((by decide : ∀ k, k < 7 → ¬ k ∈ fwM_X12_place) k h1))⟩, (hr.2.1).cg (fun j h1 h2 => f1.1 j ((by decide : ∀ j, j < 34 → 27 ≤ j → ¬ j ∈ fwI_L_place) j h1 h2)) (f1.2 18 (by decide)) (f3.1 16 (by decide)) (f3.2 18 (by decide)), (hr.2.2.1).cg (fun j h1 h2 => f1.1 j ((by decide : ∀ j, j < 41 → 34 ≤ j → ¬ j ∈ fwI_L_place) j h1 h2)) (f1.2 19 (by decide)) (f3.1 17 (by decide)) (f3.2 19 (by decide)), trivial⟩
theorem rq_entry {N : Nat} (hN : 3000000000 ≤ N) {I0 : Nat → Int32} {M0 : Nat → Nat → Int32} {I1 : Nat → Int32} {L1 : Int64} {M1 : Nat → Nat → Int32} {x1 : Int32} {x2 : Int32} {x3 : Int32} {o4 : Nat → Int64} {r1} {r3} (e1 : fL_entry N I0 M0 x1 x2 x3 o4 = some r1) (e3 : fX12_entry N I1 L1 M1 x1 x2 x3 = some r3) (k0 : KX11 I0 M0) (k1 : KX12 I1 M1) (hr : RQ I0 M0 I1 M1) : RQ r1.2.1 r1.2.2.1 r3.2.1 r3.2.2.2 := by
  have f3 := fr_fX12_entry e3
  have f1 := fr_fL_entry e1
  exact ⟨⟨hr.1.1.cg (f1.1 0 (by decide)) (f3.1 3 (by decide)) (f1.2 0 (by decide)) (f3.2 8 (by decide)), hr.1.2.1.cg (f1.2 13 (by decide)) (f3.2 7 (by decide)), hr.1.2.2.cg (f1.1 9 (by decide)) (f1.1 10 (by decide)) (fun k h1 h2 => f1.2 k ((by decide : ∀ k, k < 7 → 1 ≤ k → ¬ k ∈ fwM_L_entry) k h1 h2)) (f3.1 1 (by decide)) (f3.1 2 (by decide)) (fun k h1 => f3.2 k ((by decide : ∀ k, k < 7 → ¬ k ∈ fwM_X12_entry) k h1))⟩, (hr.2.1).cg (fun j h1 h2 => f1.1 j ((by decide : ∀ j, j < 34 → 27 ≤ j → ¬ j ∈ fwI_L_entry) j h1 h2)) (f1.2 18 (by decide)) (f3.1 16 (by decide)) (f3.2 18 (by decide)), (hr.2.2.1).cg (fun j h1 h2 => f1.1 j ((by decide : ∀ j, j < 41 → 34 ≤ j → ¬ j ∈ fwI_L_entry) j h1 h2)) (f1.2 19 (by decide)) (f3.1 17 (by decide)) (f3.2 19 (by decide)), trivial⟩
theorem rq_cost {N : Nat} (hN : 3000000000 ≤ N) {I0 : Nat → Int32} {M0 : Nat → Nat → Int32} {I1 : Nat → Int32} {L1 : Int64} {M1 : Nat → Nat → Int32} {x1 : Int32} {x2 : Int32} {x3 : Int32} {x4 : Int32} {o5 : Nat → Int64} {r1} {r3} (e1 : fL_cost N I0 M0 x1 x2 x3 x4 o5 = some r1) (e3 : fX12_cost N I1 L1 M1 x1 x2 x3 x4 = some r3) (k0 : KX11 I0 M0) (k1 : KX12 I1 M1) (hr : RQ I0 M0 I1 M1) : RQ r1.2.1 r1.2.2.1 r3.2.1 r3.2.2.2 := by
  have f3 := fr_fX12_cost e3
  have f1 := fr_fL_cost e1
  exact ⟨⟨hr.1.1.cg (f1.1 0 (by decide)) (f3.1 3 (by decide)) (f1.2 0 (by decide)) (f3.2 8 (by decide)), hr.1.2.1.cg (f1.2 13 (by decide)) (f3.2 7 (by decide)), hr.1.2.2.cg (f1.1 9 (by decide)) (f1.1 10 (by decide)) (fun k h1 h2 => f1.2 k ((by decide : ∀ k, k < 7 → 1 ≤ k → ¬ k ∈ fwM_L_cost) k h1 h2)) (f3.1 1 (by decide)) (f3.1 2 (by decide)) (fun k h1 => f3.2 k ((by decide : ∀ k, k < 7 → ¬ k ∈ fwM_X12_cost) k h1))⟩, (hr.2.1).cg (fun j h1 h2 => f1.1 j ((by decide : ∀ j, j < 34 → 27 ≤ j → ¬ j ∈ fwI_L_cost) j h1 h2)) (f1.2 18 (by decide)) (f3.1 16 (by decide)) (f3.2 18 (by decide)), (hr.2.2.1).cg (fun j h1 h2 => f1.1 j ((by decide : ∀ j, j < 41 → 34 ≤ j → ¬ j ∈ fwI_L_cost) j h1 h2)) (f1.2 19 (by decide)) (f3.1 17 (by decide)) (f3.2 19 (by decide)), trivial⟩
theorem rq_best {N : Nat} (hN : 3000000000 ≤ N) {I0 : Nat → Int32} {M0 : Nat → Nat → Int32} {I1 : Nat → Int32} {L1 : Int64} {M1 : Nat → Nat → Int32} {x1 : Int32} {x2 : Int32} {x3 : Int32} {x4 : Int32} {x5 : Int32} {o6 : Nat → Int64} {r1} {r3} (e1 : fL_best N I0 M0 x1 x2 x3 x4 x5 o6 = some r1) (e3 : fX12_best N I1 L1 M1 x1 x2 x3 x4 x5 = some r3) (k0 : KX11 I0 M0) (k1 : KX12 I1 M1) (hr : RQ I0 M0 I1 M1) : RQ r1.2.1 r1.2.2.1 r3.2.1 r3.2.2.2 := by
  have f3 := fr_fX12_best e3
  have f1 := fr_fL_best e1
  exact ⟨⟨hr.1.1.cg (f1.1 0 (by decide)) (f3.1 3 (by decide)) (f1.2 0 (by decide)) (f3.2 8 (by decide)), hr.1.2.1.cg (f1.2 13 (by decide)) (f3.2 7 (by decide)), hr.1.2.2.cg (f1.1 9 (by decide)) (f1.1 10 (by decide)) (fun k h1 h2 => f1.2 k ((by decide : ∀ k, k < 7 → 1 ≤ k → ¬ k ∈ fwM_L_best) k h1 h2)) (f3.1 1 (by decide)) (f3.1 2 (by decide)) (fun k h1 => f3.2 k ((by decide : ∀ k, k < 7 → ¬ k ∈ fwM_X12_best) k h1))⟩, (hr.2.1).cg (fun j h1 h2 => f1.1 j ((by decide : ∀ j, j < 34 → 27 ≤ j → ¬ j ∈ fwI_L_best) j h1 h2)) (f1.2 18 (by decide)) (f3.1 16 (by decide)) (f3.2 18 (by decide)), (hr.2.2.1).cg (fun j h1 h2 => f1.1 j ((by decide : ∀ j, j < 41 → 34 ≤ j → ¬ j ∈ fwI_L_best) j h1 h2)) (f1.2 19 (by decide)) (f3.1 17 (by decide)) (f3.2 19 (by decide)), trivial⟩
theorem rq_day {N : Nat} (hN : 3000000000 ≤ N) {I0 : Nat → Int32} {M0 : Nat → Nat → Int32} {I1 : Nat → Int32} {L1 : Int64} {M1 : Nat → Nat → Int32} {x1 : Int32} {o2 : Nat → Int64} {r1} {r3} (e1 : fL_day N I0 M0 x1 o2 = some r1) (e3 : fX12_day N I1 L1 M1 x1 = some r3) (k0 : KX11 I0 M0) (k1 : KX12 I1 M1) (hr : RQ I0 M0 I1 M1) : RQ r1.2.1 r1.2.2.1 r3.2.1 r3.2.2.2 := by
  have f3 := fr_fX12_day e3
  have f1 := fr_fL_day e1
  exact ⟨⟨hr.1.1.cg (f1.1 0 (by decide)) (f3.1 3 (by decide)) (f1.2 0 (by decide)) (f3.2 8 (by decide)), hr.1.2.1.cg (f1.2 13 (by decide)) (f3.2 7 (by decide)), hr.1.2.2.cg (f1.1 9 (by decide)) (f1.1 10 (by decide)) (fun k h1 h2 => f1.2 k ((by decide : ∀ k, k < 7 → 1 ≤ k → ¬ k ∈ fwM_L_day) k h1 h2)) (f3.1 1 (by decide)) (f3.1 2 (by decide)) (fun k h1 => f3.2 k ((by decide : ∀ k, k < 7 → ¬ k ∈ fwM_X12_day) k h1))⟩, (hr.2.1).cg (fun j h1 h2 => f1.1 j ((by decide : ∀ j, j < 34 → 27 ≤ j → ¬ j ∈ fwI_L_day) j h1 h2)) (f1.2 18 (by decide)) (f3.1 16 (by decide)) (f3.2 18 (by decide)), (hr.2.2.1).cg (fun j h1 h2 => f1.1 j ((by decide : ∀ j, j < 41 → 34 ≤ j → ¬ j ∈ fwI_L_day) j h1 h2)) (f1.2 19 (by decide)) (f3.1 17 (by decide)) (f3.2 19 (by decide)), trivial⟩
theorem rq_whose {N : Nat} (hN : 3000000000 ≤ N) {I0 : Nat → Int32} {M0 : Nat → Nat → Int32} {I1 : Nat → Int32} {L1 : Int64} {M1 : Nat → Nat → Int32} {x1 : Int32} {x2 : Int32} {x3 : Int32} {x4 : Int32} {x5 : Int32} {o6 : Nat → Int64} {r1} {r3} (e1 : fL_whose N I0 M0 x1 x2 x3 x4 x5 o6 = some r1) (e3 : fX12_whose N I1 L1 M1 x1 x2 x3 x4 x5 = some r3) (k0 : KX11 I0 M0) (k1 : KX12 I1 M1) (hr : RQ I0 M0 I1 M1) : RQ r1.2.1 r1.2.2.1 r3.2.1 r3.2.2.2 := by
  have f3 := fr_fX12_whose e3
  have f1 := fr_fL_whose e1
  exact ⟨⟨hr.1.1.cg (f1.1 0 (by decide)) (f3.1 3 (by decide)) (f1.2 0 (by decide)) (f3.2 8 (by decide)), hr.1.2.1.cg (f1.2 13 (by decide)) (f3.2 7 (by decide)), hr.1.2.2.cg (f1.1 9 (by decide)) (f1.1 10 (by decide)) (fun k h1 h2 => f1.2 k ((by decide : ∀ k, k < 7 → 1 ≤ k → ¬ k ∈ fwM_L_whose) k h1 h2)) (f3.1 1 (by decide)) (f3.1 2 (by decide)) (fun k h1 => f3.2 k ((by decide : ∀ k, k < 7 → ¬ k ∈ fwM_X12_whose) k h1))⟩, (hr.2.1).cg (fun j h1 h2 => f1.1 j ((by decide : ∀ j, j < 34 → 27 ≤ j → ¬ j ∈ fwI_L_whose) j h1 h2)) (f1.2 18 (by decide)) (f3.1 16 (by decide)) (f3.2 18 (by decide)), (hr.2.2.1).cg (fun j h1 h2 => f1.1 j ((by decide : ∀ j, j < 41 → 34 ≤ j → ¬ j ∈ fwI_L_whose) j h1 h2)) (f1.2 19 (by decide)) (f3.1 17 (by decide)) (f3.2 19 (by decide)), trivial⟩
theorem rq_mixed {N : Nat} (hN : 3000000000 ≤ N) {I0 : Nat → Int32} {M0 : Nat → Nat → Int32} {I1 : Nat → Int32} {L1 : Int64} {M1 : Nat → Nat → Int32} {x1 : Int32} {x2 : Int32} {x3 : Int32} {x4 : Int32} {o5 : Nat → Int64} {r1} {r3} (e1 : fL_mixed N I0 M0 x1 x2 x3 x4 o5 = some r1) (e3 : fX12_mixed N I1 L1 M1 x1 x2 x3 x4 = some r3) (k0 : KX11 I0 M0) (k1 : KX12 I1 M1) (hr : RQ I0 M0 I1 M1) : RQ r1.2.1 r1.2.2.1 r3.2.1 r3.2.2.2 := by
  have f3 := fr_fX12_mixed e3
  have f1 := fr_fL_mixed e1
  exact ⟨⟨hr.1.1.cg (f1.1 0 (by decide)) (f3.1 3 (by decide)) (f1.2 0 (by decide)) (f3.2 8 (by decide)), hr.1.2.1.cg (f1.2 13 (by decide)) (f3.2 7 (by decide)), hr.1.2.2.cg (f1.1 9 (by decide)) (f1.1 10 (by decide)) (fun k h1 h2 => f1.2 k ((by decide : ∀ k, k < 7 → 1 ≤ k → ¬ k ∈ fwM_L_mixed) k h1 h2)) (f3.1 1 (by decide)) (f3.1 2 (by decide)) (fun k h1 => f3.2 k ((by decide : ∀ k, k < 7 → ¬ k ∈ fwM_X12_mixed) k h1))⟩, (hr.2.1).cg (fun j h1 h2 => f1.1 j ((by decide : ∀ j, j < 34 → 27 ≤ j → ¬ j ∈ fwI_L_mixed) j h1 h2)) (f1.2 18 (by decide)) (f3.1 16 (by decide)) (f3.2 18 (by decide)), (hr.2.2.1).cg (fun j h1 h2 => f1.1 j ((by decide : ∀ j, j < 41 → 34 ≤ j → ¬ j ∈ fwI_L_mixed) j h1 h2)) (f1.2 19 (by decide)) (f3.1 17 (by decide)) (f3.2 19 (by decide)), trivial⟩
theorem rq_climb {N : Nat} (hN : 3000000000 ≤ N) {I0 : Nat → Int32} {M0 : Nat → Nat → Int32} {I1 : Nat → Int32} {L1 : Int64} {M1 : Nat → Nat → Int32} {x1 : Int32} {x2 : Int32} {o3 : Nat → Int64} {r1} {r3} (e1 : fL_climb N I0 M0 x1 x2 o3 = some r1) (e3 : fX12_climb N I1 L1 M1 x1 x2 = some r3) (k0 : KX11 I0 M0) (k1 : KX12 I1 M1) (hr : RQ I0 M0 I1 M1) : RQ r1.2.1 r1.2.2.1 r3.2.1 r3.2.2.2 := by
  have f3 := fr_fX12_climb e3
  have f1 := fr_fL_climb e1
  exact ⟨⟨hr.1.1.cg (f1.1 0 (by decide)) (f3.1 3 (by decide)) (f1.2 0 (by decide)) (f3.2 8 (by decide)), hr.1.2.1.cg (f1.2 13 (by decide)) (f3.2 7 (by decide)), hr.1.2.2.cg (f1.1 9 (by decide)) (f1.1 10 (by decide)) (fun k h1 h2 => f1.2 k ((by decide : ∀ k, k < 7 → 1 ≤ k → ¬ k ∈ fwM_L_climb) k h1 h2)) (f3.1 1 (by decide)) (f3.1 2 (by decide)) (fun k h1 => f3.2 k ((by decide : ∀ k, k < 7 → ¬ k ∈ fwM_X12_climb) k h1))⟩, (hr.2.1).cg (fun j h1 h2 => f1.1 j ((by decide : ∀ j, j < 34 → 27 ≤ j → ¬ j ∈ fwI_L_climb) j h1 h2)) (f1.2 18 (by decide)) (f3.1 16 (by decide)) (f3.2 18 (by decide)), (hr.2.2.1).cg (fun j h1 h2 => f1.1 j ((by decide : ∀ j, j < 41 → 34 ≤ j → ¬ j ∈ fwI_L_climb) j h1 h2)) (f1.2 19 (by decide)) (f3.1 17 (by decide)) (f3.2 19 (by decide)), trivial⟩
theorem rq_rise {N : Nat} (hN : 3000000000 ≤ N) {I0 : Nat → Int32} {M0 : Nat → Nat → Int32} {I1 : Nat → Int32} {L1 : Int64} {M1 : Nat → Nat → Int32} {x1 : Int32} {x2 : Int32} {x3 : Int32} {o4 : Nat → Int64} {r1} {r3} (e1 : fL_rise N I0 M0 x1 x2 x3 o4 = some r1) (e3 : fX12_rise N I1 L1 M1 x1 x2 x3 = some r3) (k0 : KX11 I0 M0) (k1 : KX12 I1 M1) (hr : RQ I0 M0 I1 M1) : RQ r1.2.1 r1.2.2.1 r3.2.1 r3.2.2.2 := by
  have f3 := fr_fX12_rise e3
  have f1 := fr_fL_rise e1
  exact ⟨⟨hr.1.1.cg (f1.1 0 (by decide)) (f3.1 3 (by decide)) (f1.2 0 (by decide)) (f3.2 8 (by decide)), hr.1.2.1.cg (f1.2 13 (by decide)) (f3.2 7 (by decide)), hr.1.2.2.cg (f1.1 9 (by decide)) (f1.1 10 (by decide)) (fun k h1 h2 => f1.2 k ((by decide : ∀ k, k < 7 → 1 ≤ k → ¬ k ∈ fwM_L_rise) k h1 h2)) (f3.1 1 (by decide)) (f3.1 2 (by decide)) (fun k h1 => f3.2 k ((by decide : ∀ k, k < 7 → ¬ k ∈ fwM_X12_rise) k h1))⟩, (hr.2.1).cg (fun j h1 h2 => f1.1 j ((by decide : ∀ j, j < 34 → 27 ≤ j → ¬ j ∈ fwI_L_rise) j h1 h2)) (f1.2 18 (by decide)) (f3.1 16 (by decide)) (f3.2 18 (by decide)), (hr.2.2.1).cg (fun j h1 h2 => f1.1 j ((by decide : ∀ j, j < 41 → 34 ≤ j → ¬ j ∈ fwI_L_rise) j h1 h2)) (f1.2 19 (by decide)) (f3.1 17 (by decide)) (f3.2 19 (by decide)), trivial⟩
theorem rq_middle {N : Nat} (hN : 3000000000 ≤ N) {I0 : Nat → Int32} {M0 : Nat → Nat → Int32} {I1 : Nat → Int32} {L1 : Int64} {M1 : Nat → Nat → Int32} {x1 : Int32} {x2 : Int32} {o3 : Nat → Int64} {r1} {r3} (e1 : fL_middle N I0 M0 x1 x2 o3 = some r1) (e3 : fX12_middle N I1 L1 M1 x1 x2 = some r3) (k0 : KX11 I0 M0) (k1 : KX12 I1 M1) (hr : RQ I0 M0 I1 M1) : RQ r1.2.1 r1.2.2.1 r3.2.1 r3.2.2.2 := by
  have f3 := fr_fX12_middle e3
  have f1 := fr_fL_middle e1
  exact ⟨⟨hr.1.1.cg (f1.1 0 (by decide)) (f3.1 3 (by decide)) (f1.2 0 (by decide)) (f3.2 8 (by decide)), hr.1.2.1.cg (f1.2 13 (by decide)) (f3.2 7 (by decide)), hr.1.2.2.cg (f1.1 9 (by decide)) (f1.1 10 (by decide)) (fun k h1 h2 => f1.2 k ((by decide : ∀ k, k < 7 → 1 ≤ k → ¬ k ∈ fwM_L_middle) k h1 h2)) (f3.1 1 (by decide)) (f3.1 2 (by decide)) (fun k h1 => f3.2 k ((by decide : ∀ k, k < 7 → ¬ k ∈ fwM_X12_middle) k h1))⟩, (hr.2.1).cg (fun j h1 h2 => f1.1 j ((by decide : ∀ j, j < 34 → 27 ≤ j → ¬ j ∈ fwI_L_middle) j h1 h2)) (f1.2 18 (by decide)) (f3.1 16 (by decide)) (f3.2 18 (by decide)), (hr.2.2.1).cg (fun j h1 h2 => f1.1 j ((by decide : ∀ j, j < 41 → 34 ≤ j → ¬ j ∈ fwI_L_middle) j h1 h2)) (f1.2 19 (by decide)) (f3.1 17 (by decide)) (f3.2 19 (by decide)), trivial⟩
theorem rq_hour {N : Nat} (hN : 3000000000 ≤ N) {I0 : Nat → Int32} {M0 : Nat → Nat → Int32} {I1 : Nat → Int32} {L1 : Int64} {M1 : Nat → Nat → Int32} {x1 : Int32} {x2 : Int32} {x3 : Int32} {o4 : Nat → Int64} {r1} {r3} (e1 : fL_hour N I0 M0 x1 x2 x3 o4 = some r1) (e3 : fX12_hour N I1 L1 M1 x1 x2 x3 = some r3) (k0 : KX11 I0 M0) (k1 : KX12 I1 M1) (hr : RQ I0 M0 I1 M1) : RQ r1.2.1 r1.2.2.1 r3.2.1 r3.2.2.2 := by
  have f3 := fr_fX12_hour e3
  have f1 := fr_fL_hour e1
  exact ⟨⟨hr.1.1.cg (f1.1 0 (by decide)) (f3.1 3 (by decide)) (f1.2 0 (by decide)) (f3.2 8 (by decide)), hr.1.2.1.cg (f1.2 13 (by decide)) (f3.2 7 (by decide)), hr.1.2.2.cg (f1.1 9 (by decide)) (f1.1 10 (by decide)) (fun k h1 h2 => f1.2 k ((by decide : ∀ k, k < 7 → 1 ≤ k → ¬ k ∈ fwM_L_hour) k h1 h2)) (f3.1 1 (by decide)) (f3.1 2 (by decide)) (fun k h1 => f3.2 k ((by decide : ∀ k, k < 7 → ¬ k ∈ fwM_X12_hour) k h1))⟩, (hr.2.1).cg (fun j h1 h2 => f1.1 j ((by decide : ∀ j, j < 34 → 27 ≤ j → ¬ j ∈ fwI_L_hour) j h1 h2)) (f1.2 18 (by decide)) (f3.1 16 (by decide)) (f3.2 18 (by decide)), (hr.2.2.1).cg (fun j h1 h2 => f1.1 j ((by decide : ∀ j, j < 41 → 34 ≤ j → ¬ j ∈ fwI_L_hour) j h1 h2)) (f1.2 19 (by decide)) (f3.1 17 (by decide)) (f3.2 19 (by decide)), trivial⟩
theorem rq_houseOf {N : Nat} (hN : 3000000000 ≤ N) {I0 : Nat → Int32} {M0 : Nat → Nat → Int32} {I1 : Nat → Int32} {L1 : Int64} {M1 : Nat → Nat → Int32} {x1 : Int32} {x2 : Int32} {x3 : Int32} {x4 : Int32} {o5 : Nat → Int64} {r1} {r3} (e1 : fL_houseOf N I0 M0 x1 x2 x3 x4 o5 = some r1) (e3 : fX12_houseOf N I1 L1 M1 x1 x2 x3 x4 = some r3) (k0 : KX11 I0 M0) (k1 : KX12 I1 M1) (hr : RQ I0 M0 I1 M1) : RQ r1.2.1 r1.2.2.1 r3.2.1 r3.2.2.2 := by
  have f3 := fr_fX12_houseOf e3
  have f1 := fr_fL_houseOf e1
  exact ⟨⟨hr.1.1.cg (f1.1 0 (by decide)) (f3.1 3 (by decide)) (f1.2 0 (by decide)) (f3.2 8 (by decide)), hr.1.2.1.cg (f1.2 13 (by decide)) (f3.2 7 (by decide)), hr.1.2.2.cg (f1.1 9 (by decide)) (f1.1 10 (by decide)) (fun k h1 h2 => f1.2 k ((by decide : ∀ k, k < 7 → 1 ≤ k → ¬ k ∈ fwM_L_houseOf) k h1 h2)) (f3.1 1 (by decide)) (f3.1 2 (by decide)) (fun k h1 => f3.2 k ((by decide : ∀ k, k < 7 → ¬ k ∈ fwM_X12_houseOf) k h1))⟩, (hr.2.1).cg (fun j h1 h2 => f1.1 j ((by decide : ∀ j, j < 34 → 27 ≤ j → ¬ j ∈ fwI_L_houseOf) j h1 h2)) (f1.2 18 (by decide)) (f3.1 16 (by decide)) (f3.2 18 (by decide)), (hr.2.2.1).cg (fun j h1 h2 => f1.1 j ((by decide : ∀ j, j < 41 → 34 ≤ j → ¬ j ∈ fwI_L_houseOf) j h1 h2)) (f1.2 19 (by decide)) (f3.1 17 (by decide)) (f3.2 19 (by decide)), trivial⟩
theorem rq_agree {N : Nat} (hN : 3000000000 ≤ N) {I0 : Nat → Int32} {M0 : Nat → Nat → Int32} {I1 : Nat → Int32} {L1 : Int64} {M1 : Nat → Nat → Int32} {x1 : Int32} {x2 : Int32} {x3 : Int32} {x4 : Int32} {o5 : Nat → Int64} {r1} {r3} (e1 : fL_agree N I0 M0 x1 x2 x3 x4 o5 = some r1) (e3 : fX12_agree N I1 L1 M1 x1 x2 x3 x4 = some r3) (k0 : KX11 I0 M0) (k1 : KX12 I1 M1) (hr : RQ I0 M0 I1 M1) : RQ r1.2.1 r1.2.2.1 r3.2.1 r3.2.2.2 := by
  have f3 := fr_fX12_agree e3
  have f1 := fr_fL_agree e1
  exact ⟨⟨hr.1.1.cg (f1.1 0 (by decide)) (f3.1 3 (by decide)) (f1.2 0 (by decide)) (f3.2 8 (by decide)), hr.1.2.1.cg (f1.2 13 (by decide)) (f3.2 7 (by decide)), hr.1.2.2.cg (f1.1 9 (by decide)) (f1.1 10 (by decide)) (fun k h1 h2 => f1.2 k ((by decide : ∀ k, k < 7 → 1 ≤ k → ¬ k ∈ fwM_L_agree) k h1 h2)) (f3.1 1 (by decide)) (f3.1 2 (by decide)) (fun k h1 => f3.2 k ((by decide : ∀ k, k < 7 → ¬ k ∈ fwM_X12_agree) k h1))⟩, (hr.2.1).cg (fun j h1 h2 => f1.1 j ((by decide : ∀ j, j < 34 → 27 ≤ j → ¬ j ∈ fwI_L_agree) j h1 h2)) (f1.2 18 (by decide)) (f3.1 16 (by decide)) (f3.2 18 (by decide)), (hr.2.2.1).cg (fun j h1 h2 => f1.1 j ((by decide : ∀ j, j < 41 → 34 ≤ j → ¬ j ∈ fwI_L_agree) j h1 h2)) (f1.2 19 (by decide)) (f3.1 17 (by decide)) (f3.2 19 (by decide)), trivial⟩
theorem rq_lot {N : Nat} (hN : 3000000000 ≤ N) {I0 : Nat → Int32} {M0 : Nat → Nat → Int32} {I1 : Nat → Int32} {L1 : Int64} {M1 : Nat → Nat → Int32} {x1 : Int32} {x2 : Int32} {x3 : Int32} {o4 : Nat → Int64} {r1} {r3} (e1 : fL_lot N I0 M0 x1 x2 x3 o4 = some r1) (e3 : fX12_lot N I1 L1 M1 x1 x2 x3 = some r3) (k0 : KX11 I0 M0) (k1 : KX12 I1 M1) (hr : RQ I0 M0 I1 M1) : RQ r1.2.1 r1.2.2.1 r3.2.1 r3.2.2.2 := by
  have f3 := fr_fX12_lot e3
  have f1 := fr_fL_lot e1
  exact ⟨⟨hr.1.1.cg (f1.1 0 (by decide)) (f3.1 3 (by decide)) (f1.2 0 (by decide)) (f3.2 8 (by decide)), hr.1.2.1.cg (f1.2 13 (by decide)) (f3.2 7 (by decide)), hr.1.2.2.cg (f1.1 9 (by decide)) (f1.1 10 (by decide)) (fun k h1 h2 => f1.2 k ((by decide : ∀ k, k < 7 → 1 ≤ k → ¬ k ∈ fwM_L_lot) k h1 h2)) (f3.1 1 (by decide)) (f3.1 2 (by decide)) (fun k h1 => f3.2 k ((by decide : ∀ k, k < 7 → ¬ k ∈ fwM_X12_lot) k h1))⟩, (hr.2.1).cg (fun j h1 h2 => f1.1 j ((by decide : ∀ j, j < 34 → 27 ≤ j → ¬ j ∈ fwI_L_lot) j h1 h2)) (f1.2 18 (by decide)) (f3.1 16 (by decide)) (f3.2 18 (by decide)), (hr.2.2.1).cg (fun j h1 h2 => f1.1 j ((by decide : ∀ j, j < 41 → 34 ≤ j → ¬ j ∈ fwI_L_lot) j h1 h2)) (f1.2 19 (by decide)) (f3.1 17 (by decide)) (f3.2 19 (by decide)), trivial⟩
theorem rq_price {N : Nat} (hN : 3000000000 ≤ N) {I0 : Nat → Int32} {M0 : Nat → Nat → Int32} {I1 : Nat → Int32} {L1 : Int64} {M1 : Nat → Nat → Int32} {x1 : Int32} {x2 : Int32} {o3 : Nat → Int64} {r1} {r3} (e1 : fL_price N I0 M0 x1 x2 o3 = some r1) (e3 : fX12_price N I1 L1 M1 x1 x2 = some r3) (k0 : KX11 I0 M0) (k1 : KX12 I1 M1) (hr : RQ I0 M0 I1 M1) : RQ r1.2.1 r1.2.2.1 r3.2.1 r3.2.2.2 := by
  have f3 := fr_fX12_price e3
  have f1 := fr_fL_price e1
  exact ⟨⟨hr.1.1.cg (f1.1 0 (by decide)) (f3.1 3 (by decide)) (f1.2 0 (by decide)) (f3.2 8 (by decide)), hr.1.2.1.cg (f1.2 13 (by decide)) (f3.2 7 (by decide)), hr.1.2.2.cg (f1.1 9 (by decide)) (f1.1 10 (by decide)) (fun k h1 h2 => f1.2 k ((by decide : ∀ k, k < 7 → 1 ≤ k → ¬ k ∈ fwM_L_price) k h1 h2)) (f3.1 1 (by decide)) (f3.1 2 (by decide)) (fun k h1 => f3.2 k ((by decide : ∀ k, k < 7 → ¬ k ∈ fwM_X12_price) k h1))⟩, (hr.2.1).cg (fun j h1 h2 => f1.1 j ((by decide : ∀ j, j < 34 → 27 ≤ j → ¬ j ∈ fwI_L_price) j h1 h2)) (f1.2 18 (by decide)) (f3.1 16 (by decide)) (f3.2 18 (by decide)), (hr.2.2.1).cg (fun j h1 h2 => f1.1 j ((by decide : ∀ j, j < 41 → 34 ≤ j → ¬ j ∈ fwI_L_price) j h1 h2)) (f1.2 19 (by decide)) (f3.1 17 (by decide)) (f3.2 19 (by decide)), trivial⟩
theorem rq_seek {N : Nat} (hN : 3000000000 ≤ N) {I0 : Nat → Int32} {M0 : Nat → Nat → Int32} {I1 : Nat → Int32} {L1 : Int64} {M1 : Nat → Nat → Int32} {x1 : Int32} {x2 : Int32} {x3 : Int32} {x4 : Int32} {r1} {r3} (e1 : fL_seek N I0 M0 x1 x2 x3 x4 = some r1) (e3 : fX12_seek N I1 L1 M1 x1 x2 x3 x4 = some r3) (k0 : KX11 I0 M0) (k1 : KX12 I1 M1) (hr : RQ I0 M0 I1 M1) : RQ r1.2.1 r1.2.2 r3.1 r3.2.2 := by
  have f3 := fr_fX12_seek e3
  have f1 := fr_fL_seek e1
  exact ⟨⟨hr.1.1.cg (f1.1 0 (by decide)) (f3.1 3 (by decide)) (f1.2 0 (by decide)) (f3.2 8 (by decide)), hr.1.2.1.cg (f1.2 13 (by decide)) (f3.2 7 (by decide)), hr.1.2.2.cg (f1.1 9 (by decide)) (f1.1 10 (by decide)) (fun k h1 h2 => f1.2 k ((by decide : ∀ k, k < 7 → 1 ≤ k → ¬ k ∈ fwM_L_seek) k h1 h2)) (f3.1 1 (by decide)) (f3.1 2 (by decide)) (fun k h1 => f3.2 k ((by decide : ∀ k, k < 7 → ¬ k ∈ fwM_X12_seek) k h1))⟩, hx_seek e1 e3 hr.2.1, (hr.2.2.1).cg (fun j h1 h2 => f1.1 j ((by decide : ∀ j, j < 41 → 34 ≤ j → ¬ j ∈ fwI_L_seek) j h1 h2)) (f1.2 19 (by decide)) (f3.1 17 (by decide)) (f3.2 19 (by decide)), trivial⟩
theorem rq_on {N : Nat} (hN : 3000000000 ≤ N) {I0 : Nat → Int32} {M0 : Nat → Nat → Int32} {I1 : Nat → Int32} {L1 : Int64} {M1 : Nat → Nat → Int32} {x1 : Int32} {o2 : Nat → Int64} {r1} {r3} (e1 : fL_on N I0 M0 x1 o2 = some r1) (e3 : fX12_on N I1 L1 M1 x1 = some r3) (k0 : KX11 I0 M0) (k1 : KX12 I1 M1) (hr : RQ I0 M0 I1 M1) : RQ r1.2.1 r1.2.2.1 r3.2.1 r3.2.2.2 := by
  have f3 := fr_fX12_on e3
  have f1 := fr_fL_on e1
  exact ⟨⟨hr.1.1.cg (f1.1 0 (by decide)) (f3.1 3 (by decide)) (f1.2 0 (by decide)) (f3.2 8 (by decide)), hr.1.2.1.cg (f1.2 13 (by decide)) (f3.2 7 (by decide)), hr.1.2.2.cg (f1.1 9 (by decide)) (f1.1 10 (by decide)) (fun k h1 h2 => f1.2 k ((by decide : ∀ k, k < 7 → 1 ≤ k → ¬ k ∈ fwM_L_on) k h1 h2)) (f3.1 1 (by decide)) (f3.1 2 (by decide)) (fun k h1 => f3.2 k ((by decide : ∀ k, k < 7 → ¬ k ∈ fwM_X12_on) k h1))⟩, (an_on hN k0 k1 e1 e3 hr.1 hr.2.1).2, (hr.2.2.1).cg (fun j h1 h2 => f1.1 j ((by decide : ∀ j, j < 41 → 34 ≤ j → ¬ j ∈ fwI_L_on) j h1 h2)) (f1.2 19 (by decide)) (f3.1 17 (by decide)) (f3.2 19 (by decide)), trivial⟩
theorem rq_held {N : Nat} (hN : 3000000000 ≤ N) {I0 : Nat → Int32} {M0 : Nat → Nat → Int32} {I1 : Nat → Int32} {L1 : Int64} {M1 : Nat → Nat → Int32} {x1 : Int32} {o2 : Nat → Int64} {r1} {r3} (e1 : fL_held N I0 M0 x1 o2 = some r1) (e3 : fX12_held N I1 L1 M1 x1 = some r3) (k0 : KX11 I0 M0) (k1 : KX12 I1 M1) (hr : RQ I0 M0 I1 M1) : RQ r1.2.1 r1.2.2.1 r3.2.1 r3.2.2.2 := by
  have f3 := fr_fX12_held e3
  have f1 := fr_fL_held e1
  exact ⟨⟨hr.1.1.cg (f1.1 0 (by decide)) (f3.1 3 (by decide)) (f1.2 0 (by decide)) (f3.2 8 (by decide)), hr.1.2.1.cg (f1.2 13 (by decide)) (f3.2 7 (by decide)), hr.1.2.2.cg (f1.1 9 (by decide)) (f1.1 10 (by decide)) (fun k h1 h2 => f1.2 k ((by decide : ∀ k, k < 7 → 1 ≤ k → ¬ k ∈ fwM_L_held) k h1 h2)) (f3.1 1 (by decide)) (f3.1 2 (by decide)) (fun k h1 => f3.2 k ((by decide : ∀ k, k < 7 → ¬ k ∈ fwM_X12_held) k h1))⟩, (hr.2.1).cg (fun j h1 h2 => f1.1 j ((by decide : ∀ j, j < 34 → 27 ≤ j → ¬ j ∈ fwI_L_held) j h1 h2)) (f1.2 18 (by decide)) (f3.1 16 (by decide)) (f3.2 18 (by decide)), (hr.2.2.1).cg (fun j h1 h2 => f1.1 j ((by decide : ∀ j, j < 41 → 34 ≤ j → ¬ j ∈ fwI_L_held) j h1 h2)) (f1.2 19 (by decide)) (f3.1 17 (by decide)) (f3.2 19 (by decide)), trivial⟩
theorem rq_image {N : Nat} (hN : 3000000000 ≤ N) {I0 : Nat → Int32} {M0 : Nat → Nat → Int32} {I1 : Nat → Int32} {L1 : Int64} {M1 : Nat → Nat → Int32} {r1} {r2} (e1 : fX11_image N I0 M0  = some r1) (e3 : fX12_image N I1 L1 M1  = some r2) (k0 : KX11 I0 M0) (k1 : KX12 I1 M1) (hr : RQ I0 M0 I1 M1) : RQ r1.2.1 r1.2.2 r2.2.1 r2.2.2.2 := by
  have f3 := fr_fX12_image e3
  have f1 := fr_fX11_image e1
  exact ⟨⟨hr.1.1.cg (f1.1 0 (by decide)) (f3.1 3 (by decide)) (f1.2 0 (by decide)) (f3.2 8 (by decide)), hr.1.2.1.cg (f1.2 13 (by decide)) (f3.2 7 (by decide)), hr.1.2.2.cg (f1.1 9 (by decide)) (f1.1 10 (by decide)) (fun k h1 h2 => f1.2 k ((by decide : ∀ k, k < 7 → 1 ≤ k → ¬ k ∈ fwM_X11_image) k h1 h2)) (f3.1 1 (by decide)) (f3.1 2 (by decide)) (fun k h1 => f3.2 k ((by decide : ∀ k, k < 7 → ¬ k ∈ fwM_X12_image) k h1))⟩, (hr.2.1).cg (fun j h1 h2 => f1.1 j ((by decide : ∀ j, j < 34 → 27 ≤ j → ¬ j ∈ fwI_X11_image) j h1 h2)) (f1.2 18 (by decide)) (f3.1 16 (by decide)) (f3.2 18 (by decide)), (an_image k0 e1 e3 hr.2.1 hr.2.2.1).2, trivial⟩
theorem rq_restore {N : Nat} (hN : 3000000000 ≤ N) {I0 : Nat → Int32} {M0 : Nat → Nat → Int32} {I1 : Nat → Int32} {L1 : Int64} {M1 : Nat → Nat → Int32} {r1} {r2} (e1 : fX11_restore N I0 M0  = some r1) (e3 : fX12_restore N I1 L1 M1  = some r2) (k0 : KX11 I0 M0) (k1 : KX12 I1 M1) (hr : RQ I0 M0 I1 M1) : RQ r1.2.1 r1.2.2 r2.2.1 r2.2.2.2 := by
  have f3 := fr_fX12_restore e3
  have f1 := fr_fX11_restore e1
  exact ⟨⟨hr.1.1.cg (f1.1 0 (by decide)) (f3.1 3 (by decide)) (f1.2 0 (by decide)) (f3.2 8 (by decide)), hr.1.2.1.cg (f1.2 13 (by decide)) (f3.2 7 (by decide)), hr.1.2.2.cg (f1.1 9 (by decide)) (f1.1 10 (by decide)) (fun k h1 h2 => f1.2 k ((by decide : ∀ k, k < 7 → 1 ≤ k → ¬ k ∈ fwM_X11_restore) k h1 h2)) (f3.1 1 (by decide)) (f3.1 2 (by decide)) (fun k h1 => f3.2 k ((by decide : ∀ k, k < 7 → ¬ k ∈ fwM_X12_restore) k h1))⟩, (an_restore k0 e1 e3 hr.2.1 hr.2.2.1).2, (hr.2.2.1).cg (fun j h1 h2 => f1.1 j ((by decide : ∀ j, j < 41 → 34 ≤ j → ¬ j ∈ fwI_X11_restore) j h1 h2)) (f1.2 19 (by decide)) (f3.1 17 (by decide)) (f3.2 19 (by decide)), trivial⟩
theorem rq_misread {N : Nat} (hN : 3000000000 ≤ N) {I0 : Nat → Int32} {M0 : Nat → Nat → Int32} {I1 : Nat → Int32} {L1 : Int64} {M1 : Nat → Nat → Int32} {x1 : Int32} {x2 : Int32} {x3 : Int32} {x4 : Int32} {x5 : Int32} {o6 : Nat → Int64} {r1} {r3} (e1 : fL_misread N I0 M0 x1 x2 x3 x4 x5 o6 = some r1) (e3 : fX12_misread N I1 L1 M1 x1 x2 x3 x4 x5 = some r3) (k0 : KX11 I0 M0) (k1 : KX12 I1 M1) (hr : RQ I0 M0 I1 M1) : RQ r1.2.1 r1.2.2.1 r3.2.1 r3.2.2.2 := by
  have f3 := fr_fX12_misread e3
  have f1 := fr_fL_misread e1
  exact ⟨⟨hr.1.1.cg (f1.1 0 (by decide)) (f3.1 3 (by decide)) (f1.2 0 (by decide)) (f3.2 8 (by decide)), hr.1.2.1.cg (f1.2 13 (by decide)) (f3.2 7 (by decide)), hr.1.2.2.cg (f1.1 9 (by decide)) (f1.1 10 (by decide)) (fun k h1 h2 => f1.2 k ((by decide : ∀ k, k < 7 → 1 ≤ k → ¬ k ∈ fwM_L_misread) k h1 h2)) (f3.1 1 (by decide)) (f3.1 2 (by decide)) (fun k h1 => f3.2 k ((by decide : ∀ k, k < 7 → ¬ k ∈ fwM_X12_misread) k h1))⟩, (hr.2.1).cg (fun j h1 h2 => f1.1 j ((by decide : ∀ j, j < 34 → 27 ≤ j → ¬ j ∈ fwI_L_misread) j h1 h2)) (f1.2 18 (by decide)) (f3.1 16 (by decide)) (f3.2 18 (by decide)), (hr.2.2.1).cg (fun j h1 h2 => f1.1 j ((by decide : ∀ j, j < 41 → 34 ≤ j → ¬ j ∈ fwI_L_misread) j h1 h2)) (f1.2 19 (by decide)) (f3.1 17 (by decide)) (f3.2 19 (by decide)), trivial⟩
theorem rq_errors {N : Nat} (hN : 3000000000 ≤ N) {I0 : Nat → Int32} {M0 : Nat → Nat → Int32} {I1 : Nat → Int32} {L1 : Int64} {M1 : Nat → Nat → Int32} {x1 : Int32} {x2 : Int32} {x3 : Int32} {x4 : Int32} {o5 : Nat → Int64} {r1} {r3} (e1 : fL_errors N I0 M0 x1 x2 x3 x4 o5 = some r1) (e3 : fX12_errors N I1 L1 M1 x1 x2 x3 x4 = some r3) (k0 : KX11 I0 M0) (k1 : KX12 I1 M1) (hr : RQ I0 M0 I1 M1) : RQ r1.2.1 r1.2.2.1 r3.2.1 r3.2.2.2 := by
  have f3 := fr_fX12_errors e3
  have f1 := fr_fL_errors e1
  exact ⟨⟨hr.1.1.cg (f1.1 0 (by decide)) (f3.1 3 (by decide)) (f1.2 0 (by decide)) (f3.2 8 (by decide)), hr.1.2.1.cg (f1.2 13 (by decide)) (f3.2 7 (by decide)), hr.1.2.2.cg (f1.1 9 (by decide)) (f1.1 10 (by decide)) (fun k h1 h2 => f1.2 k ((by decide : ∀ k, k < 7 → 1 ≤ k → ¬ k ∈ fwM_L_errors) k h1 h2)) (f3.1 1 (by decide)) (f3.1 2 (by decide)) (fun k h1 => f3.2 k ((by decide : ∀ k, k < 7 → ¬ k ∈ fwM_X12_errors) k h1))⟩, (hr.2.1).cg (fun j h1 h2 => f1.1 j ((by decide : ∀ j, j < 34 → 27 ≤ j → ¬ j ∈ fwI_L_errors) j h1 h2)) (f1.2 18 (by decide)) (f3.1 16 (by decide)) (f3.2 18 (by decide)), (hr.2.2.1).cg (fun j h1 h2 => f1.1 j ((by decide : ∀ j, j < 41 → 34 ≤ j → ¬ j ∈ fwI_L_errors) j h1 h2)) (f1.2 19 (by decide)) (f3.1 17 (by decide)) (f3.2 19 (by decide)), trivial⟩
theorem rq_possible {N : Nat} (hN : 3000000000 ≤ N) {I0 : Nat → Int32} {M0 : Nat → Nat → Int32} {I1 : Nat → Int32} {L1 : Int64} {M1 : Nat → Nat → Int32} {x1 : Int32} {x2 : Int32} {x3 : Int32} {o4 : Nat → Int64} {r1} {r3} (e1 : fL_possible N I0 M0 x1 x2 x3 o4 = some r1) (e3 : fX12_possible N I1 L1 M1 x1 x2 x3 = some r3) (k0 : KX11 I0 M0) (k1 : KX12 I1 M1) (hr : RQ I0 M0 I1 M1) : RQ r1.2.1 r1.2.2.1 r3.2.1 r3.2.2.2 := by
  have f3 := fr_fX12_possible e3
  have f1 := fr_fL_possible e1
  exact ⟨⟨hr.1.1.cg (f1.1 0 (by decide)) (f3.1 3 (by decide)) (f1.2 0 (by decide)) (f3.2 8 (by decide)), hr.1.2.1.cg (f1.2 13 (by decide)) (f3.2 7 (by decide)), hr.1.2.2.cg (f1.1 9 (by decide)) (f1.1 10 (by decide)) (fun k h1 h2 => f1.2 k ((by decide : ∀ k, k < 7 → 1 ≤ k → ¬ k ∈ fwM_L_possible) k h1 h2)) (f3.1 1 (by decide)) (f3.1 2 (by decide)) (fun k h1 => f3.2 k ((by decide : ∀ k, k < 7 → ¬ k ∈ fwM_X12_possible) k h1))⟩, (hr.2.1).cg (fun j h1 h2 => f1.1 j ((by decide : ∀ j, j < 34 → 27 ≤ j → ¬ j ∈ fwI_L_possible) j h1 h2)) (f1.2 18 (by decide)) (f3.1 16 (by decide)) (f3.2 18 (by decide)), (hr.2.2.1).cg (fun j h1 h2 => f1.1 j ((by decide : ∀ j, j < 41 → 34 ≤ j → ¬ j ∈ fwI_L_possible) j h1 h2)) (f1.2 19 (by decide)) (f3.1 17 (by decide)) (f3.2 19 (by decide)), trivial⟩
theorem rq_slips {N : Nat} (hN : 3000000000 ≤ N) {I0 : Nat → Int32} {M0 : Nat → Nat → Int32} {I1 : Nat → Int32} {L1 : Int64} {M1 : Nat → Nat → Int32} {x1 : Int32} {x2 : Int32} {o3 : Nat → Int64} {r1} {r3} (e1 : fL_slips N I0 M0 x1 x2 o3 = some r1) (e3 : fX12_slips N I1 L1 M1 x1 x2 = some r3) (k0 : KX11 I0 M0) (k1 : KX12 I1 M1) (hr : RQ I0 M0 I1 M1) : RQ r1.2.1 r1.2.2.1 r3.2.1 r3.2.2.2 := by
  have f3 := fr_fX12_slips e3
  have f1 := fr_fL_slips e1
  exact ⟨⟨hr.1.1.cg (f1.1 0 (by decide)) (f3.1 3 (by decide)) (f1.2 0 (by decide)) (f3.2 8 (by decide)), hr.1.2.1.cg (f1.2 13 (by decide)) (f3.2 7 (by decide)), hr.1.2.2.cg (f1.1 9 (by decide)) (f1.1 10 (by decide)) (fun k h1 h2 => f1.2 k ((by decide : ∀ k, k < 7 → 1 ≤ k → ¬ k ∈ fwM_L_slips) k h1 h2)) (f3.1 1 (by decide)) (f3.1 2 (by decide)) (fun k h1 => f3.2 k ((by decide : ∀ k, k < 7 → ¬ k ∈ fwM_X12_slips) k h1))⟩, (hr.2.1).cg (fun j h1 h2 => f1.1 j ((by decide : ∀ j, j < 34 → 27 ≤ j → ¬ j ∈ fwI_L_slips) j h1 h2)) (f1.2 18 (by decide)) (f3.1 16 (by decide)) (f3.2 18 (by decide)), (hr.2.2.1).cg (fun j h1 h2 => f1.1 j ((by decide : ∀ j, j < 41 → 34 ≤ j → ¬ j ∈ fwI_L_slips) j h1 h2)) (f1.2 19 (by decide)) (f3.1 17 (by decide)) (f3.2 19 (by decide)), trivial⟩
theorem rq_handed {N : Nat} (hN : 3000000000 ≤ N) {I0 : Nat → Int32} {M0 : Nat → Nat → Int32} {I1 : Nat → Int32} {L1 : Int64} {M1 : Nat → Nat → Int32} {x1 : Int32} {x2 : Int32} {x3 : Int32} {o4 : Nat → Int64} {r1} {r3} (e1 : fL_handed N I0 M0 x1 x2 x3 o4 = some r1) (e3 : fX12_handed N I1 L1 M1 x1 x2 x3 = some r3) (k0 : KX11 I0 M0) (k1 : KX12 I1 M1) (hr : RQ I0 M0 I1 M1) : RQ r1.2.1 r1.2.2.1 r3.2.1 r3.2.2.2 := by
  have f3 := fr_fX12_handed e3
  have f1 := fr_fL_handed e1
  exact ⟨⟨hr.1.1.cg (f1.1 0 (by decide)) (f3.1 3 (by decide)) (f1.2 0 (by decide)) (f3.2 8 (by decide)), hr.1.2.1.cg (f1.2 13 (by decide)) (f3.2 7 (by decide)), hr.1.2.2.cg (f1.1 9 (by decide)) (f1.1 10 (by decide)) (fun k h1 h2 => f1.2 k ((by decide : ∀ k, k < 7 → 1 ≤ k → ¬ k ∈ fwM_L_handed) k h1 h2)) (f3.1 1 (by decide)) (f3.1 2 (by decide)) (fun k h1 => f3.2 k ((by decide : ∀ k, k < 7 → ¬ k ∈ fwM_X12_handed) k h1))⟩, (hr.2.1).cg (fun j h1 h2 => f1.1 j ((by decide : ∀ j, j < 34 → 27 ≤ j → ¬ j ∈ fwI_L_handed) j h1 h2)) (f1.2 18 (by decide)) (f3.1 16 (by decide)) (f3.2 18 (by decide)), (hr.2.2.1).cg (fun j h1 h2 => f1.1 j ((by decide : ∀ j, j < 41 → 34 ≤ j → ¬ j ∈ fwI_L_handed) j h1 h2)) (f1.2 19 (by decide)) (f3.1 17 (by decide)) (f3.2 19 (by decide)), trivial⟩
theorem rq_leaf {N : Nat} (hN : 3000000000 ≤ N) {I0 : Nat → Int32} {M0 : Nat → Nat → Int32} {I1 : Nat → Int32} {L1 : Int64} {M1 : Nat → Nat → Int32} {x1 : Int32} {x2 : Int32} {o3 : Nat → Int64} {r1} {r3} (e1 : fL_leaf N I0 M0 x1 x2 o3 = some r1) (e3 : fX12_leaf N I1 L1 M1 x1 x2 = some r3) (k0 : KX11 I0 M0) (k1 : KX12 I1 M1) (hr : RQ I0 M0 I1 M1) : RQ r1.2.1 r1.2.2.1 r3.2.1 r3.2.2.2 := by
  have f3 := fr_fX12_leaf e3
  have f1 := fr_fL_leaf e1
  exact ⟨⟨hr.1.1.cg (f1.1 0 (by decide)) (f3.1 3 (by decide)) (f1.2 0 (by decide)) (f3.2 8 (by decide)), hr.1.2.1.cg (f1.2 13 (by decide)) (f3.2 7 (by decide)), hr.1.2.2.cg (f1.1 9 (by decide)) (f1.1 10 (by decide)) (fun k h1 h2 => f1.2 k ((by decide : ∀ k, k < 7 → 1 ≤ k → ¬ k ∈ fwM_L_leaf) k h1 h2)) (f3.1 1 (by decide)) (f3.1 2 (by decide)) (fun k h1 => f3.2 k ((by decide : ∀ k, k < 7 → ¬ k ∈ fwM_X12_leaf) k h1))⟩, (hr.2.1).cg (fun j h1 h2 => f1.1 j ((by decide : ∀ j, j < 34 → 27 ≤ j → ¬ j ∈ fwI_L_leaf) j h1 h2)) (f1.2 18 (by decide)) (f3.1 16 (by decide)) (f3.2 18 (by decide)), (hr.2.2.1).cg (fun j h1 h2 => f1.1 j ((by decide : ∀ j, j < 41 → 34 ≤ j → ¬ j ∈ fwI_L_leaf) j h1 h2)) (f1.2 19 (by decide)) (f3.1 17 (by decide)) (f3.2 19 (by decide)), trivial⟩
theorem rq_order {N : Nat} (hN : 3000000000 ≤ N) {I0 : Nat → Int32} {M0 : Nat → Nat → Int32} {I1 : Nat → Int32} {L1 : Int64} {M1 : Nat → Nat → Int32} {x1 : Int32} {x2 : Int32} {x3 : Int32} {o4 : Nat → Int64} {r1} {r3} (e1 : fL_order N I0 M0 x1 x2 x3 o4 = some r1) (e3 : fX12_order N I1 L1 M1 x1 x2 x3 = some r3) (k0 : KX11 I0 M0) (k1 : KX12 I1 M1) (hr : RQ I0 M0 I1 M1) : RQ r1.2.1 r1.2.2.1 r3.2.1 r3.2.2.2 := by
  have f3 := fr_fX12_order e3
  have f1 := fr_fL_order e1
  exact ⟨⟨hr.1.1.cg (f1.1 0 (by decide)) (f3.1 3 (by decide)) (f1.2 0 (by decide)) (f3.2 8 (by decide)), hr.1.2.1.cg (f1.2 13 (by decide)) (f3.2 7 (by decide)), hr.1.2.2.cg (f1.1 9 (by decide)) (f1.1 10 (by decide)) (fun k h1 h2 => f1.2 k ((by decide : ∀ k, k < 7 → 1 ≤ k → ¬ k ∈ fwM_L_order) k h1 h2)) (f3.1 1 (by decide)) (f3.1 2 (by decide)) (fun k h1 => f3.2 k ((by decide : ∀ k, k < 7 → ¬ k ∈ fwM_X12_order) k h1))⟩, (hr.2.1).cg (fun j h1 h2 => f1.1 j ((by decide : ∀ j, j < 34 → 27 ≤ j → ¬ j ∈ fwI_L_order) j h1 h2)) (f1.2 18 (by decide)) (f3.1 16 (by decide)) (f3.2 18 (by decide)), (hr.2.2.1).cg (fun j h1 h2 => f1.1 j ((by decide : ∀ j, j < 41 → 34 ≤ j → ¬ j ∈ fwI_L_order) j h1 h2)) (f1.2 19 (by decide)) (f3.1 17 (by decide)) (f3.2 19 (by decide)), trivial⟩
theorem rq_same {N : Nat} (hN : 3000000000 ≤ N) {I0 : Nat → Int32} {M0 : Nat → Nat → Int32} {I1 : Nat → Int32} {L1 : Int64} {M1 : Nat → Nat → Int32} {x1 : Int32} {x2 : Int32} {x3 : Int32} {o4 : Nat → Int64} {r1} {r3} (e1 : fL_same N I0 M0 x1 x2 x3 o4 = some r1) (e3 : fX12_same N I1 L1 M1 x1 x2 x3 = some r3) (k0 : KX11 I0 M0) (k1 : KX12 I1 M1) (hr : RQ I0 M0 I1 M1) : RQ r1.2.1 r1.2.2.1 r3.2.1 r3.2.2.2 := by
  have f3 := fr_fX12_same e3
  have f1 := fr_fL_same e1
  exact ⟨⟨hr.1.1.cg (f1.1 0 (by decide)) (f3.1 3 (by decide)) (f1.2 0 (by decide)) (f3.2 8 (by decide)), hr.1.2.1.cg (f1.2 13 (by decide)) (f3.2 7 (by decide)), hr.1.2.2.cg (f1.1 9 (by decide)) (f1.1 10 (by decide)) (fun k h1 h2 => f1.2 k ((by decide : ∀ k, k < 7 → 1 ≤ k → ¬ k ∈ fwM_L_same) k h1 h2)) (f3.1 1 (by decide)) (f3.1 2 (by decide)) (fun k h1 => f3.2 k ((by decide : ∀ k, k < 7 → ¬ k ∈ fwM_X12_same) k h1))⟩, (hr.2.1).cg (fun j h1 h2 => f1.1 j ((by decide : ∀ j, j < 34 → 27 ≤ j → ¬ j ∈ fwI_L_same) j h1 h2)) (f1.2 18 (by decide)) (f3.1 16 (by decide)) (f3.2 18 (by decide)), (hr.2.2.1).cg (fun j h1 h2 => f1.1 j ((by decide : ∀ j, j < 41 → 34 ≤ j → ¬ j ∈ fwI_L_same) j h1 h2)) (f1.2 19 (by decide)) (f3.1 17 (by decide)) (f3.2 19 (by decide)), trivial⟩
theorem rq_births {N : Nat} (hN : 3000000000 ≤ N) {I0 : Nat → Int32} {M0 : Nat → Nat → Int32} {I1 : Nat → Int32} {L1 : Int64} {M1 : Nat → Nat → Int32} {x1 : Int32} {x2 : Int32} {o3 : Nat → Int64} {r1} {r3} (e1 : fL_births N I0 M0 x1 x2 o3 = some r1) (e3 : fX12_births N I1 L1 M1 x1 x2 = some r3) (k0 : KX11 I0 M0) (k1 : KX12 I1 M1) (hr : RQ I0 M0 I1 M1) : RQ r1.2.1 r1.2.2.1 r3.2.1 r3.2.2.2 := by
  have f3 := fr_fX12_births e3
  have f1 := fr_fL_births e1
  exact ⟨⟨hr.1.1.cg (f1.1 0 (by decide)) (f3.1 3 (by decide)) (f1.2 0 (by decide)) (f3.2 8 (by decide)), hr.1.2.1.cg (f1.2 13 (by decide)) (f3.2 7 (by decide)), hr.1.2.2.cg (f1.1 9 (by decide)) (f1.1 10 (by decide)) (fun k h1 h2 => f1.2 k ((by decide : ∀ k, k < 7 → 1 ≤ k → ¬ k ∈ fwM_L_births) k h1 h2)) (f3.1 1 (by decide)) (f3.1 2 (by decide)) (fun k h1 => f3.2 k ((by decide : ∀ k, k < 7 → ¬ k ∈ fwM_X12_births) k h1))⟩, (hr.2.1).cg (fun j h1 h2 => f1.1 j ((by decide : ∀ j, j < 34 → 27 ≤ j → ¬ j ∈ fwI_L_births) j h1 h2)) (f1.2 18 (by decide)) (f3.1 16 (by decide)) (f3.2 18 (by decide)), (hr.2.2.1).cg (fun j h1 h2 => f1.1 j ((by decide : ∀ j, j < 41 → 34 ≤ j → ¬ j ∈ fwI_L_births) j h1 h2)) (f1.2 19 (by decide)) (f3.1 17 (by decide)) (f3.2 19 (by decide)), trivial⟩
theorem rq_tree {N : Nat} (hN : 3000000000 ≤ N) {I0 : Nat → Int32} {M0 : Nat → Nat → Int32} {I1 : Nat → Int32} {L1 : Int64} {M1 : Nat → Nat → Int32} {r1} {r2} (e1 : fX11_tree N I0 M0  = some r1) (e3 : fX12_tree N I1 L1 M1  = some r2) (k0 : KX11 I0 M0) (k1 : KX12 I1 M1) (hr : RQ I0 M0 I1 M1) : RQ r1.2.1 r1.2.2 r2.2.1 r2.2.2.2 := by
  have f3 := fr_fX12_tree e3
  have f1 := fr_fX11_tree e1
  exact ⟨⟨hr.1.1.cg (f1.1 0 (by decide)) (f3.1 3 (by decide)) (f1.2 0 (by decide)) (f3.2 8 (by decide)), hr.1.2.1.cg (f1.2 13 (by decide)) (f3.2 7 (by decide)), hr.1.2.2.cg (f1.1 9 (by decide)) (f1.1 10 (by decide)) (fun k h1 h2 => f1.2 k ((by decide : ∀ k, k < 7 → 1 ≤ k → ¬ k ∈ fwM_X11_tree) k h1 h2)) (f3.1 1 (by decide)) (f3.1 2 (by decide)) (fun k h1 => f3.2 k ((by decide : ∀ k, k < 7 → ¬ k ∈ fwM_X12_tree) k h1))⟩, (hr.2.1).cg (fun j h1 h2 => f1.1 j ((by decide : ∀ j, j < 34 → 27 ≤ j → ¬ j ∈ fwI_X11_tree) j h1 h2)) (f1.2 18 (by decide)) (f3.1 16 (by decide)) (f3.2 18 (by decide)), (hr.2.2.1).cg (fun j h1 h2 => f1.1 j ((by decide : ∀ j, j < 41 → 34 ≤ j → ¬ j ∈ fwI_X11_tree) j h1 h2)) (f1.2 19 (by decide)) (f3.1 17 (by decide)) (f3.2 19 (by decide)), trivial⟩
theorem rq_whence {N : Nat} (hN : 3000000000 ≤ N) {I0 : Nat → Int32} {M0 : Nat → Nat → Int32} {I1 : Nat → Int32} {L1 : Int64} {M1 : Nat → Nat → Int32} {x1 : Int32} {o2 : Nat → Int64} {r1} {r3} (e1 : fL_whence N I0 M0 x1 o2 = some r1) (e3 : fX12_whence N I1 L1 M1 x1 = some r3) (k0 : KX11 I0 M0) (k1 : KX12 I1 M1) (hr : RQ I0 M0 I1 M1) : RQ r1.2.1 r1.2.2.1 r3.2.1 r3.2.2.2 := by
  have f3 := fr_fX12_whence e3
  have f1 := fr_fL_whence e1
  exact ⟨⟨hr.1.1.cg (f1.1 0 (by decide)) (f3.1 3 (by decide)) (f1.2 0 (by decide)) (f3.2 8 (by decide)), hr.1.2.1.cg (f1.2 13 (by decide)) (f3.2 7 (by decide)), hr.1.2.2.cg (f1.1 9 (by decide)) (f1.1 10 (by decide)) (fun k h1 h2 => f1.2 k ((by decide : ∀ k, k < 7 → 1 ≤ k → ¬ k ∈ fwM_L_whence) k h1 h2)) (f3.1 1 (by decide)) (f3.1 2 (by decide)) (fun k h1 => f3.2 k ((by decide : ∀ k, k < 7 → ¬ k ∈ fwM_X12_whence) k h1))⟩, (hr.2.1).cg (fun j h1 h2 => f1.1 j ((by decide : ∀ j, j < 34 → 27 ≤ j → ¬ j ∈ fwI_L_whence) j h1 h2)) (f1.2 18 (by decide)) (f3.1 16 (by decide)) (f3.2 18 (by decide)), (hr.2.2.1).cg (fun j h1 h2 => f1.1 j ((by decide : ∀ j, j < 41 → 34 ≤ j → ¬ j ∈ fwI_L_whence) j h1 h2)) (f1.2 19 (by decide)) (f3.1 17 (by decide)) (f3.2 19 (by decide)), trivial⟩
theorem rq_life {N : Nat} (hN : 3000000000 ≤ N) {I0 : Nat → Int32} {M0 : Nat → Nat → Int32} {I1 : Nat → Int32} {L1 : Int64} {M1 : Nat → Nat → Int32} {x1 : Int32} {x2 : Int32} {x3 : Int32} {o4 : Nat → Int64} {r1} {r3} (e1 : fL_life N I0 M0 x1 x2 x3 o4 = some r1) (e3 : fX12_life N I1 L1 M1 x1 x2 x3 = some r3) (k0 : KX11 I0 M0) (k1 : KX12 I1 M1) (hr : RQ I0 M0 I1 M1) : RQ r1.2.1 r1.2.2.1 r3.2.1 r3.2.2.2 := by
  have f3 := fr_fX12_life e3
  have f1 := fr_fL_life e1
  exact ⟨⟨hr.1.1.cg (f1.1 0 (by decide)) (f3.1 3 (by decide)) (f1.2 0 (by decide)) (f3.2 8 (by decide)), hr.1.2.1.cg (f1.2 13 (by decide)) (f3.2 7 (by decide)), hr.1.2.2.cg (f1.1 9 (by decide)) (f1.1 10 (by decide)) (fun k h1 h2 => f1.2 k ((by decide : ∀ k, k < 7 → 1 ≤ k → ¬ k ∈ fwM_L_life) k h1 h2)) (f3.1 1 (by decide)) (f3.1 2 (by decide)) (fun k h1 => f3.2 k ((by decide : ∀ k, k < 7 → ¬ k ∈ fwM_X12_life) k h1))⟩, (hr.2.1).cg (fun j h1 h2 => f1.1 j ((by decide : ∀ j, j < 34 → 27 ≤ j → ¬ j ∈ fwI_L_life) j h1 h2)) (f1.2 18 (by decide)) (f3.1 16 (by decide)) (f3.2 18 (by decide)), (hr.2.2.1).cg (fun j h1 h2 => f1.1 j ((by decide : ∀ j, j < 41 → 34 ≤ j → ¬ j ∈ fwI_L_life) j h1 h2)) (f1.2 19 (by decide)) (f3.1 17 (by decide)) (f3.2 19 (by decide)), trivial⟩
theorem rq_fate {N : Nat} (hN : 3000000000 ≤ N) {I0 : Nat → Int32} {M0 : Nat → Nat → Int32} {I1 : Nat → Int32} {L1 : Int64} {M1 : Nat → Nat → Int32} {x1 : Int32} {x2 : Int32} {o3 : Nat → Int64} {r1} {r3} (e1 : fL_fate N I0 M0 x1 x2 o3 = some r1) (e3 : fX12_fate N I1 L1 M1 x1 x2 = some r3) (k0 : KX11 I0 M0) (k1 : KX12 I1 M1) (hr : RQ I0 M0 I1 M1) : RQ r1.2.1 r1.2.2.1 r3.2.1 r3.2.2.2 := by
  have f3 := fr_fX12_fate e3
  have f1 := fr_fL_fate e1
  exact ⟨⟨hr.1.1.cg (f1.1 0 (by decide)) (f3.1 3 (by decide)) (f1.2 0 (by decide)) (f3.2 8 (by decide)), hr.1.2.1.cg (f1.2 13 (by decide)) (f3.2 7 (by decide)), hr.1.2.2.cg (f1.1 9 (by decide)) (f1.1 10 (by decide)) (fun k h1 h2 => f1.2 k ((by decide : ∀ k, k < 7 → 1 ≤ k → ¬ k ∈ fwM_L_fate) k h1 h2)) (f3.1 1 (by decide)) (f3.1 2 (by decide)) (fun k h1 => f3.2 k ((by decide : ∀ k, k < 7 → ¬ k ∈ fwM_X12_fate) k h1))⟩, (hr.2.1).cg (fun j h1 h2 => f1.1 j ((by decide : ∀ j, j < 34 → 27 ≤ j → ¬ j ∈ fwI_L_fate) j h1 h2)) (f1.2 18 (by decide)) (f3.1 16 (by decide)) (f3.2 18 (by decide)), (hr.2.2.1).cg (fun j h1 h2 => f1.1 j ((by decide : ∀ j, j < 41 → 34 ≤ j → ¬ j ∈ fwI_L_fate) j h1 h2)) (f1.2 19 (by decide)) (f3.1 17 (by decide)) (f3.2 19 (by decide)), trivial⟩
theorem rq_fates {N : Nat} (hN : 3000000000 ≤ N) {I0 : Nat → Int32} {M0 : Nat → Nat → Int32} {I1 : Nat → Int32} {L1 : Int64} {M1 : Nat → Nat → Int32} {x1 : Int32} {o2 : Nat → Int64} {r1} {r3} (e1 : fL_fates N I0 M0 x1 o2 = some r1) (e3 : fX12_fates N I1 L1 M1 x1 = some r3) (k0 : KX11 I0 M0) (k1 : KX12 I1 M1) (hr : RQ I0 M0 I1 M1) : RQ r1.2.1 r1.2.2.1 r3.2.1 r3.2.2.2 := by
  have f3 := fr_fX12_fates e3
  have f1 := fr_fL_fates e1
  exact ⟨⟨hr.1.1.cg (f1.1 0 (by decide)) (f3.1 3 (by decide)) (f1.2 0 (by decide)) (f3.2 8 (by decide)), hr.1.2.1.cg (f1.2 13 (by decide)) (f3.2 7 (by decide)), hr.1.2.2.cg (f1.1 9 (by decide)) (f1.1 10 (by decide)) (fun k h1 h2 => f1.2 k ((by decide : ∀ k, k < 7 → 1 ≤ k → ¬ k ∈ fwM_L_fates) k h1 h2)) (f3.1 1 (by decide)) (f3.1 2 (by decide)) (fun k h1 => f3.2 k ((by decide : ∀ k, k < 7 → ¬ k ∈ fwM_X12_fates) k h1))⟩, (hr.2.1).cg (fun j h1 h2 => f1.1 j ((by decide : ∀ j, j < 34 → 27 ≤ j → ¬ j ∈ fwI_L_fates) j h1 h2)) (f1.2 18 (by decide)) (f3.1 16 (by decide)) (f3.2 18 (by decide)), (hr.2.2.1).cg (fun j h1 h2 => f1.1 j ((by decide : ∀ j, j < 41 → 34 ≤ j → ¬ j ∈ fwI_L_fates) j h1 h2)) (f1.2 19 (by decide)) (f3.1 17 (by decide)) (f3.2 19 (by decide)), trivial⟩
theorem rq_hits {N : Nat} (hN : 3000000000 ≤ N) {I0 : Nat → Int32} {M0 : Nat → Nat → Int32} {I1 : Nat → Int32} {L1 : Int64} {M1 : Nat → Nat → Int32} {x1 : Int32} {x2 : Int32} {o3 : Nat → Int64} {r1} {r3} (e1 : fL_hits N I0 M0 x1 x2 o3 = some r1) (e3 : fX12_hits N I1 L1 M1 x1 x2 = some r3) (k0 : KX11 I0 M0) (k1 : KX12 I1 M1) (hr : RQ I0 M0 I1 M1) : RQ r1.2.1 r1.2.2.1 r3.2.1 r3.2.2.2 := by
  have f3 := fr_fX12_hits e3
  have f1 := fr_fL_hits e1
  exact ⟨⟨hr.1.1.cg (f1.1 0 (by decide)) (f3.1 3 (by decide)) (f1.2 0 (by decide)) (f3.2 8 (by decide)), hr.1.2.1.cg (f1.2 13 (by decide)) (f3.2 7 (by decide)), hr.1.2.2.cg (f1.1 9 (by decide)) (f1.1 10 (by decide)) (fun k h1 h2 => f1.2 k ((by decide : ∀ k, k < 7 → 1 ≤ k → ¬ k ∈ fwM_L_hits) k h1 h2)) (f3.1 1 (by decide)) (f3.1 2 (by decide)) (fun k h1 => f3.2 k ((by decide : ∀ k, k < 7 → ¬ k ∈ fwM_X12_hits) k h1))⟩, (hr.2.1).cg (fun j h1 h2 => f1.1 j ((by decide : ∀ j, j < 34 → 27 ≤ j → ¬ j ∈ fwI_L_hits) j h1 h2)) (f1.2 18 (by decide)) (f3.1 16 (by decide)) (f3.2 18 (by decide)), (hr.2.2.1).cg (fun j h1 h2 => f1.1 j ((by decide : ∀ j, j < 41 → 34 ≤ j → ¬ j ∈ fwI_L_hits) j h1 h2)) (f1.2 19 (by decide)) (f3.1 17 (by decide)) (f3.2 19 (by decide)), trivial⟩

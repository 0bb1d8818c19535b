/-! long numbers; the PLACE of a WANDERER by both -/
theorem la_add (x y : Int64) (h1 : -4611686018427387904 ≤ x.toInt + y.toInt) (h2 : x.toInt + y.toInt ≤ 4611686018427387904) : (x + y).toInt = x.toInt + y.toInt := by
  rw [Int64.toInt_add]
  exact Int.bmod_eq_of_le (by omega) (by omega)
theorem la_sub (x y : Int64) (h1 : -4611686018427387904 ≤ x.toInt - y.toInt) (h2 : x.toInt - y.toInt ≤ 4611686018427387904) : (x - y).toInt = x.toInt - y.toInt := by
  rw [Int64.toInt_sub]
  exact Int.bmod_eq_of_le (by omega) (by omega)
theorem la_mul (x y : Int64) (h1 : -4611686018427387904 ≤ x.toInt * y.toInt) (h2 : x.toInt * y.toInt ≤ 4611686018427387904) : (x * y).toInt = x.toInt * y.toInt := by
  rw [Int64.toInt_mul]
  exact Int.bmod_eq_of_le (by omega) (by omega)
theorem ndv {x y : Int} (hx : x < 0) (hy : 0 < y) : ((-x) % y = 0 → x / y = -((-x) / y) ∧ x % y = 0) ∧ (¬ (-x) % y = 0 → x / y = -((-x) / y) - 1 ∧ x % y = y - (-x) % y) := by
  have e := Int.mul_ediv_add_emod (-x) y
  have h1 := Int.emod_nonneg (-x) (by omega : y ≠ 0)
  have h2 := Int.emod_lt_of_pos (-x) hy
  constructor
  · intro h
    refine (Int.ediv_emod_unique hy).mpr ⟨?_, by omega, hy⟩
    rw [Int.mul_neg]
    omega
  · intro h
    refine (Int.ediv_emod_unique hy).mpr ⟨?_, by omega, by omega⟩
    rw [Int.mul_sub, Int.mul_neg, Int.mul_one]
    omega
theorem la_div (x y : Int64) (hy : 0 < y.toInt) (h1 : -4611686018427387904 ≤ x.toInt) (h2 : x.toInt ≤ 4611686018427387904) : (0 ≤ x.toInt → (x / y).toInt = x.toInt / y.toInt) ∧ (x.toInt < 0 → (x / y).toInt = -((-x.toInt) / y.toInt)) := by
  rw [Int64.toInt_div]
  constructor
  · intro h
    rw [Int.tdiv_eq_ediv_of_nonneg h]
    have h3 := Int.ediv_nonneg h (by omega : 0 ≤ y.toInt)
    have h4 := Int.ediv_le_self y.toInt h
    exact Int.bmod_eq_of_le (by omega) (by omega)
  · intro h
    have e : x.toInt.tdiv y.toInt = -((-x.toInt) / y.toInt) := by
      have e2 : x.toInt = -(-x.toInt) := by omega
      rw [e2, Int.neg_tdiv, Int.tdiv_eq_ediv_of_nonneg (by omega)]
      rw [← e2]
    rw [e]
    have h3 := Int.ediv_nonneg (by omega : 0 ≤ -x.toInt) (by omega : 0 ≤ y.toInt)
    have h4 := Int.ediv_le_self y.toInt (by omega : 0 ≤ -x.toInt)
    exact Int.bmod_eq_of_le (by omega) (by omega)
theorem la_rem (x y : Int64) (hy : 0 < y.toInt) (hy2 : y.toInt ≤ 4611686018427387904) (h1 : -4611686018427387904 ≤ x.toInt) (h2 : x.toInt ≤ 4611686018427387904) : (0 ≤ x.toInt → (x - x / y * y).toInt = x.toInt % y.toInt) ∧ (x.toInt < 0 → (x - x / y * y).toInt = -((-x.toInt) % y.toInt)) := by
  have d := la_div x y hy h1 h2
  constructor
  · intro h
    have e := Int.mul_ediv_add_emod x.toInt y.toInt
    have h3 := Int.emod_nonneg x.toInt (by omega : y.toInt ≠ 0)
    have h5 := Int.ediv_nonneg h (by omega : 0 ≤ y.toInt)
    have h6 : 0 ≤ y.toInt * (x.toInt / y.toInt) := Int.mul_nonneg (by omega) h5
    have m := la_mul (x / y) y (by rw [d.1 h, Int.mul_comm]; omega) (by rw [d.1 h, Int.mul_comm]; omega)
    rw [d.1 h, Int.mul_comm] at m
    rw [la_sub _ _ (by omega) (by omega), m]
    omega
  · intro h
    have e := Int.mul_ediv_add_emod (-x.toInt) y.toInt
    have h3 := Int.emod_nonneg (-x.toInt) (by omega : y.toInt ≠ 0)
    have h5 := Int.ediv_nonneg (by omega : 0 ≤ -x.toInt) (by omega : 0 ≤ y.toInt)
    have h6 : 0 ≤ y.toInt * ((-x.toInt) / y.toInt) := Int.mul_nonneg (by omega) h5
    have m := la_mul (x / y) y (by rw [d.2 h, Int.neg_mul, Int.mul_comm]; omega) (by rw [d.2 h, Int.neg_mul, Int.mul_comm]; omega)
    rw [d.2 h, Int.neg_mul, Int.mul_comm] at m
    rw [la_sub _ _ (by omega) (by omega), m]
    omega
theorem lgc_ge {a b : Int64} : 0 ≤ lg_cmp a b ↔ b.toInt ≤ a.toInt := by
  unfold lg_cmp
  by_cases h : a > b
  · rw [if_pos h]
    have : b.toInt < a.toInt := Int64.lt_iff_toInt_lt.mp h
    exact ⟨fun _ => by omega, fun _ => by decide⟩
  · rw [if_neg h]
    by_cases h2 : a = b
    · rw [if_pos h2, h2]
      exact ⟨fun _ => Int.le_refl _, fun _ => by decide⟩
    · rw [if_neg h2]
      refine ⟨fun z => absurd z (by decide), fun z => ?_⟩
      exfalso
      rcases Int.lt_or_eq_of_le z with z | z
      · exact h (Int64.lt_iff_toInt_lt.mpr z)
      · exact h2 (Int64.toInt_inj.mp z.symm)
theorem xs64 {x y : Int64} (hy : 0 ≤ y.toInt) : (0 ≤ (x ^^^ y).toInt) ↔ 0 ≤ x.toInt := by
  have m : ∀ z : Int64, z.toBitVec.msb = decide (z.toInt < 0) := fun z => BitVec.msb_eq_toInt
  have e : (x ^^^ y).toBitVec.msb = (x.toBitVec.msb ^^ y.toBitVec.msb) := by
    rw [Int64.toBitVec_xor, BitVec.msb_xor]
  rw [m, m, m, decide_eq_false (by omega : ¬ y.toInt < 0), Bool.xor_false] at e
  have e2 : ((x ^^^ y).toInt < 0) ↔ x.toInt < 0 := by
    have := congrArg (· = true) e
    simp only [decide_eq_true_eq] at this
    rw [this]
  omega
theorem z64 : (0 : Int64).toInt = 0 := by decide
theorem fdv64 {N : Nat} {x y r : Int64} (hy : 0 < y.toInt) (hy2 : y.toInt ≤ 4611686018427387904) (h1 : -2305843009213693952 ≤ x.toInt) (h2 : x.toInt ≤ 4611686018427387904) (h : fJ9_floorDiv_f86c9 N x y = some r) : r.toInt = x.toInt / y.toInt := by
  unfold fJ9_floorDiv_f86c9 at h
  obtain ⟨-, h⟩ := wb_n h
  obtain ⟨v, ev, h⟩ := wb_v h
  have d := la_div x y hy (by omega) h2
  rcases ifr h with ⟨c, h⟩ | ⟨c, h⟩
  · have c := (xs64 (y := y) (by omega)).mp (by have := lgc_ge.mp c; rw [z64] at this; exact this)
    have h := Option.some.inj h
    rw [← h, ev]; exact d.1 c
  · have c : x.toInt < 0 := by
      refine Int.not_le.mp (fun z => c (lgc_ge.mpr ?_))
      rw [z64]; exact (xs64 (y := y) (by omega)).mpr z
    have nd := ndv c hy
    have e := Int.mul_ediv_add_emod (-x.toInt) y.toInt
    have h3 := Int.emod_nonneg (-x.toInt) (by omega : y.toInt ≠ 0)
    have h5 := Int.ediv_nonneg (by omega : 0 ≤ -x.toInt) (by omega : 0 ≤ y.toInt)
    have h6 : 0 ≤ y.toInt * ((-x.toInt) / y.toInt) := Int.mul_nonneg (by omega) h5
    have m := la_mul (x / y) y (by rw [d.2 c, Int.neg_mul, Int.mul_comm]; omega) (by rw [d.2 c, Int.neg_mul, Int.mul_comm]; omega)
    rw [d.2 c, Int.neg_mul, Int.mul_comm] at m
    rcases ifr h with ⟨c2, h⟩ | ⟨c2, h⟩
    · have c2 := congrArg Int64.toInt (lgc0.mp c2)
      rw [ev, m] at c2
      have h := Option.some.inj h
      rw [← h, ev, d.2 c, (nd.1 (by omega)).1]
    · have c3 : ¬ (-x.toInt) % y.toInt = 0 := fun z => c2 (lgc0.mpr (Int64.toInt_inj.mp (by rw [ev, m]; omega)))
      have h := Option.some.inj h
      have n1 : (1 : Int64).toInt = 1 := by decide
      have h4 := Int.ediv_le_self y.toInt (by omega : 0 ≤ -x.toInt)
      rw [← h, la_sub _ _ (by rw [ev, d.2 c, n1]; omega) (by rw [ev, d.2 c, n1]; omega), ev, d.2 c, n1, (nd.2 c3).1]
theorem fmd64 {N : Nat} {x y r : Int64} (hy : 0 < y.toInt) (hy2 : y.toInt ≤ 4611686018427387904) (h1 : -2305843009213693952 ≤ x.toInt) (h2 : x.toInt ≤ 4611686018427387904) (h : fJ9_floorMod_f86c9 N x y = some r) : r.toInt = x.toInt % y.toInt := by
  unfold fJ9_floorMod_f86c9 at h
  obtain ⟨-, h⟩ := wb_n h
  obtain ⟨v, ev, h⟩ := wb_v h
  have d := la_rem x y hy hy2 (by omega) h2
  rcases ifr h with ⟨c, h⟩ | ⟨c, h⟩
  · have c := (xs64 (y := y) (by omega)).mp (by have := lgc_ge.mp c; rw [z64] at this; exact this)
    have h := Option.some.inj h
    rw [← h, ev]; exact d.1 c
  · have c : x.toInt < 0 := by
      refine Int.not_le.mp (fun z => c (lgc_ge.mpr ?_))
      rw [z64]; exact (xs64 (y := y) (by omega)).mpr z
    have nd := ndv c hy
    have h3 := Int.emod_nonneg (-x.toInt) (by omega : y.toInt ≠ 0)
    have h4 := Int.emod_lt_of_pos (-x.toInt) hy
    rcases ifr h with ⟨c2, h⟩ | ⟨c2, h⟩
    · have c2 := congrArg Int64.toInt (lgc0.mp c2)
      rw [ev, d.2 c, z64] at c2
      have h := Option.some.inj h
      rw [← h, ev, d.2 c, (nd.1 (by omega)).2]
      omega
    · have c3 : ¬ (-x.toInt) % y.toInt = 0 := fun z => c2 (lgc0.mpr (Int64.toInt_inj.mp (by rw [ev, d.2 c, z64]; omega)))
      have h := Option.some.inj h
      rw [← h, la_add _ _ (by rw [ev, d.2 c]; omega) (by rw [ev, d.2 c]; omega), ev, d.2 c, (nd.2 c3).2]
      omega
theorem flr64 {N : Nat} {x y r : Int64} (hy : 0 < y.toInt) (hy2 : y.toInt ≤ 4611686018427387904) (h1 : -2305843009213693952 ≤ x.toInt) (h2 : x.toInt ≤ 4611686018427387904) (h : fX12_floor N x y = some r) : r.toInt = x.toInt / y.toInt := by
  unfold fX12_floor at h
  obtain ⟨-, h⟩ := wb_n h
  obtain ⟨v, ev, h⟩ := wb_v h
  obtain ⟨-, h⟩ := wb_n h
  have d := la_div x y hy (by omega) h2
  have rm := la_rem x y hy hy2 (by omega) h2
  have n1 : (1 : Int64).toInt = 1 := by decide
  rcases Int.lt_or_le x.toInt 0 with c | c
  · have nd := ndv c hy
    rcases ifr h with ⟨c2, h⟩ | ⟨c2, h⟩
    · have c2 := congrArg Int64.toInt (lgc0.mp c2)
      rw [rm.2 c, z64] at c2
      have h := Option.some.inj h
      rw [← h, ev, d.2 c, (nd.1 (by omega)).1]
    · have c3 : ¬ (-x.toInt) % y.toInt = 0 := fun z => c2 (lgc0.mpr (Int64.toInt_inj.mp (by rw [rm.2 c, z64]; omega)))
      have h := wb_f (fun z => by
        have := lgc_ge.mp z
        rw [z64] at this
        omega) h
      have h := Option.some.inj h
      have h3 := Int.ediv_nonneg (by omega : 0 ≤ -x.toInt) (by omega : 0 ≤ y.toInt)
      have h4 := Int.ediv_le_self y.toInt (by omega : 0 ≤ -x.toInt)
      rw [← h, la_sub _ _ (by rw [ev, d.2 c, n1]; omega) (by rw [ev, d.2 c, n1]; omega), ev, d.2 c, n1, (nd.2 c3).1]
  · rcases ifr h with ⟨c2, h⟩ | ⟨c2, h⟩
    · have h := Option.some.inj h
      rw [← h, ev]; exact d.1 c
    · have h := wb_t (lgc_ge.mpr (by rw [z64]; exact c)) h
      have h := Option.some.inj h
      rw [← h, ev]; exact d.1 c
/-- the PLACE, as a number -/
def plc (a g w p d : Int) : Int := (a + g * d / 1000 + ((2 * (if 0 ≤ 2 * (d % p) - p then 2 * (d % p) - p else -(2 * (d % p) - p)) - p) * w) / p) % 21600
theorem sw_rg {w p d : Int} (hw : 0 ≤ w) (hw2 : w ≤ 10800) (hp : 1 ≤ p) (hp2 : p ≤ 1000000) : ∃ q, q = 2 * (if 0 ≤ 2 * (d % p) - p then 2 * (d % p) - p else -(2 * (d % p) - p)) - p ∧ -p ≤ q ∧ q ≤ p ∧ -10800000000 ≤ q * w ∧ q * w ≤ 10800000000 ∧ -10800000000 ≤ q * w / p ∧ q * w / p ≤ 10800000000 := by
  have h1 := Int.emod_nonneg d (by omega : p ≠ 0)
  have h2 := Int.emod_lt_of_pos d (by omega : 0 < p)
  refine ⟨_, rfl, ?_⟩
  generalize hq : 2 * (if 0 ≤ 2 * (d % p) - p then 2 * (d % p) - p else -(2 * (d % p) - p)) - p = q
  have a1 : -p ≤ q := by
    rw [← hq]; split <;> omega
  have a2 : q ≤ p := by
    rw [← hq]; split <;> omega
  have b1 : q * w ≤ 1000000 * 10800 := by
    rcases Int.lt_or_le q 0 with z | z
    · have := Int.mul_nonpos_of_nonpos_of_nonneg (by omega : q ≤ 0) hw
      omega
    · exact Int.mul_le_mul (by omega) hw2 hw (by omega)
  have b2 : -(1000000 * 10800) ≤ q * w := by
    rcases Int.lt_or_le q 0 with z | z
    · have := Int.mul_le_mul (a := -q) (b := w) (c := 1000000) (d := 10800) (by omega) hw2 hw (by omega)
      rw [Int.neg_mul] at this
      omega
    · have := Int.mul_nonneg z hw
      omega
  refine ⟨a1, a2, by omega, by omega, ?_, ?_⟩
  · rcases Int.lt_or_le (q * w) 0 with z | z
    · have h3 := Int.ediv_nonneg (by omega : 0 ≤ -(q * w)) (by omega : 0 ≤ p)
      have h4 := Int.ediv_le_self p (by omega : 0 ≤ -(q * w))
      have nd := ndv z (by omega : 0 < p)
      by_cases hz : (-(q * w)) % p = 0
      · rw [(nd.1 hz).1]; omega
      · rw [(nd.2 hz).1]
        by_cases hp1 : p = 1
        · exfalso
          rw [hp1] at hz
          omega
        · have h5 : 2 * ((-(q * w)) / p) ≤ -(q * w) := by
            have e := Int.mul_ediv_add_emod (-(q * w)) p
            have h6 := Int.emod_nonneg (-(q * w)) (by omega : p ≠ 0)
            have h7 := Int.mul_le_mul_of_nonneg_right (by omega : 2 ≤ p) h3
            omega
          omega
    · have h3 := Int.ediv_nonneg z (by omega : 0 ≤ p)
      omega
  · rcases Int.lt_or_le (q * w) 0 with z | z
    · have h3 := Int.ediv_nonneg (by omega : 0 ≤ -(q * w)) (by omega : 0 ≤ p)
      have nd := ndv z (by omega : 0 < p)
      by_cases hz : (-(q * w)) % p = 0
      · rw [(nd.1 hz).1]; omega
      · rw [(nd.2 hz).1]; omega
    · have h4 := Int.ediv_le_self p z
      omega

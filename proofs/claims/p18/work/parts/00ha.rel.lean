/-! class and reference side by side: bytes and tokens -/
theorem ifr {c : Prop} [Decidable c] {α : Type} {A B : Option α} {R : α} (h : (if c then A else B) = some R) : (c ∧ A = some R) ∨ (¬ c ∧ B = some R) := by
  by_cases hc : c
  · rw [if_pos hc] at h; exact Or.inl ⟨hc, h⟩
  · rw [if_neg hc] at h; exact Or.inr ⟨hc, h⟩
theorem t32 {a b : Int32} (h : a.toInt = b.toInt) : a = b := Int32.toInt_inj.mp h
theorem lt32 {a b : Int32} {x y : Int} (ha : a.toInt = x) (hb : b.toInt = y) : a < b ↔ x < y := by rw [← ha, ← hb]; exact Int32.lt_iff_toInt_lt
theorem le32 {a b : Int32} {x y : Int} (ha : a.toInt = x) (hb : b.toInt = y) : a ≤ b ↔ x ≤ y := by rw [← ha, ← hb]; exact Int32.le_iff_toInt_le
theorem eq32 {a b : Int32} {x y : Int} (ha : a.toInt = x) (hb : b.toInt = y) : a = b ↔ x = y := by rw [← ha, ← hb]; exact Int32.toInt_inj.symm
theorem cl32 (x : Int32) : x.toNatClampNeg = x.toInt.toNat := rfl
theorem and255 (x : Int32) : (x &&& 255).toInt = x.toInt % 256 := by
  have h : (x &&& 255).toBitVec.toNat = x.toBitVec.toNat % 256 := by
    rw [Int32.toBitVec_and]
    show (x.toBitVec &&& 255#32).toNat = _
    rw [BitVec.toNat_and]
    exact Nat.and_two_pow_sub_one_eq_mod _ 8
  show (x &&& 255).toBitVec.toInt = x.toBitVec.toInt % 256
  rw [BitVec.toInt_eq_toNat_cond, BitVec.toInt_eq_toNat_cond, h]
  have := x.toBitVec.isLt
  split <;> split <;> omega
theorem byte8 (x : Int32) : x.toInt8.toInt32.toInt = Int.bmod x.toInt 256 := by
  rw [Int8.toInt_toInt32, Int32.toInt_toInt8]
def BR (a b : Int32) : Prop := (0 ≤ a.toInt ∧ a.toInt ≤ 127 ∧ b.toInt = a.toInt) ∨ (-128 ≤ a.toInt ∧ a.toInt < 0 ∧ b.toInt = a.toInt + 256)
theorem BR_of (x : Int32) : BR (vp_nar .byte x.toInt8.toInt32) (x &&& 255) := by
  have e : vp_nar .byte x.toInt8.toInt32 = x.toInt8.toInt32 := by
    rw [show vp_nar .byte x.toInt8.toInt32 = x.toInt8.toInt32.toInt8.toInt32 from rfl]
    apply t32
    rw [byte8, byte8]
    simp only [Int.bmod_bmod]
  rw [e]
  unfold BR
  rw [byte8, and255]
  have h := @Int.bmod_def x.toInt 256
  have h0 := Int.emod_nonneg x.toInt (by omega : (256 : Int) ≠ 0)
  have h1 := Int.emod_lt_of_pos x.toInt (by omega : (0 : Int) < 256)
  rw [h]
  split <;> omega
theorem BR.same {a b : Int32} (h : BR a b) (hb : b.toInt ≤ 127) : a = b := t32 (by unfold BR at h; omega)
theorem BR.rg {a b : Int32} (h : BR a b) (lo hi : Int) (h0 : 0 ≤ lo) (h1 : hi ≤ 127) : (lo ≤ a.toInt ∧ a.toInt ≤ hi) ↔ (lo ≤ b.toInt ∧ b.toInt ≤ hi) := by
  unfold BR at h; constructor <;> (intro q; omega)
theorem BR.eq {a b : Int32} (h : BR a b) {c : Int32} (h0 : 0 ≤ c.toInt) (h1 : c.toInt ≤ 127) : a = c ↔ b = c := by
  rw [eq32 (a := a) (b := c) rfl rfl, eq32 (a := b) (b := c) rfl rfl]
  unfold BR at h; constructor <;> (intro q; omega)
def cL (x : Int32) : Prop := 97 ≤ x.toInt ∧ x.toInt ≤ 122
def cD (x : Int32) : Prop := 48 ≤ x.toInt ∧ x.toInt ≤ 57
theorem let9 {N : Nat} {x r : Int32} (h : fX9_isLetter N x = some r) : (r = 0 ∧ ¬ cL x) ∨ (r = 1 ∧ cL x) := by
  unfold fX9_isLetter at h
  unfold cL
  rcases ifr h with ⟨c, h⟩ | ⟨c, h⟩
  · have c := (lt32 (y := 97) rfl (by decide)).mp c
    exact Or.inl ⟨(Option.some.inj h).symm, by omega⟩
  · have c : ¬ _ := fun q => c ((lt32 (y := 97) rfl (by decide)).mpr q)
    rcases ifr h with ⟨d, h⟩ | ⟨d, h⟩
    · have d := (lt32 (x := 122) (by decide) rfl).mp d
      exact Or.inl ⟨(Option.some.inj h).symm, by omega⟩
    · have d : ¬ _ := fun q => d ((lt32 (x := 122) (by decide) rfl).mpr q)
      exact Or.inr ⟨(Option.some.inj h).symm, by omega⟩
theorem dig9 {N : Nat} {x r : Int32} (h : fX9_isDigit N x = some r) : (r = 0 ∧ ¬ cD x) ∨ (r = 1 ∧ cD x) := by
  unfold fX9_isDigit at h
  unfold cD
  rcases ifr h with ⟨c, h⟩ | ⟨c, h⟩
  · have c := (lt32 (y := 48) rfl (by decide)).mp c
    exact Or.inl ⟨(Option.some.inj h).symm, by omega⟩
  · have c : ¬ _ := fun q => c ((lt32 (y := 48) rfl (by decide)).mpr q)
    rcases ifr h with ⟨d, h⟩ | ⟨d, h⟩
    · have d := (lt32 (x := 57) (by decide) rfl).mp d
      exact Or.inl ⟨(Option.some.inj h).symm, by omega⟩
    · have d : ¬ _ := fun q => d ((lt32 (x := 57) (by decide) rfl).mpr q)
      exact Or.inr ⟨(Option.some.inj h).symm, by omega⟩
theorem let12 {N : Nat} {x r : Int32} (h : fX12_isLetter N x = some r) : (r = 0 ∧ ¬ cL x) ∨ (r = 1 ∧ cL x) := let9 (N := N) h
theorem dig12 {N : Nat} {x r : Int32} (h : fX12_isDigit N x = some r) : (r = 0 ∧ ¬ cD x) ∨ (r = 1 ∧ cD x) := dig9 (N := N) h
theorem bat {N : Nat} {J : Nat → Int32} {L : Int64} {K : Nat → Nat → Int32} {x r : Int32} (h : fX12_byteAt N J L K x = some r) : ((J 6).toInt ≤ x.toInt ∧ r = 0) ∨ (x.toInt < (J 6).toInt ∧ 0 ≤ x.toInt ∧ r = K 8 x.toInt.toNat) := by
  unfold fX12_byteAt at h
  rcases ifr h with ⟨c, h⟩ | ⟨c, h⟩
  · exact Or.inl ⟨(le32 rfl rfl).mp c, (Option.some.inj h).symm⟩
  · have c : ¬ _ := fun q => c ((le32 rfl rfl).mpr q)
    obtain ⟨d, h⟩ := wb_n h
    have d0 : ¬ x.toInt < 0 := fun q => d (Or.inl ((lt32 rfl (by decide)).mpr q))
    exact Or.inr ⟨by omega, by omega, (Option.some.inj h).symm⟩
def TQ (I J : Nat → Int32) (M K : Nat → Nat → Int32) : Prop := I 1 = J 6 ∧ I 3 = J 7 ∧ 0 ≤ (I 3).toInt ∧ (I 3).toInt ≤ (I 1).toInt ∧ (I 1).toInt ≤ 600 ∧ ∀ j : Nat, (j : Int) < (I 1).toInt → BR (M 0 j) (K 8 j)
def pk (b : Nat → Int) (s : Nat) : Nat → Int
  | 0 => 0
  | n + 1 => 32 * pk b s n + (b (s + n) - 96)
def TW (I : Nat → Int32) (L : Int64) (M : Nat → Nat → Int32) : Prop := (∀ j : Nat, (I 2).toInt ≤ (j : Int) → (j : Int) < (I 3).toInt → cL (M 0 j)) ∧ ((I 3).toInt - (I 2).toInt ≤ 8 → L.toInt = pk (fun j => (M 0 j).toInt) (I 2).toInt.toNat ((I 3).toInt - (I 2).toInt).toNat)
def TK (I J : Nat → Int32) (L : Int64) (M K : Nat → Nat → Int32) : Prop := TQ I J M K ∧ I 2 = J 9 ∧ I 4 = J 8 ∧ 0 ≤ (I 2).toInt ∧ (I 2).toInt ≤ (I 3).toInt ∧ J 10 = J 7 - J 9 ∧ (I 4 = 2 → I 5 = J 11) ∧ (I 4 = 1 → TW I L M)
theorem TQ.adv {I J I' J' : Nat → Int32} {M K : Nat → Nat → Int32} (h : TQ I J M K) (hc : (I 3).toInt < (I 1).toInt) (h1 : I' 1 = I 1) (h3 : I' 3 = I 3 + 1) (j6 : J' 6 = J 6) (j7 : J' 7 = J 7 + 1) : TQ I' J' M K ∧ (I' 3).toInt = (I 3).toInt + 1 := by
  obtain ⟨a1, a2, a3, a4, a5, a6⟩ := h
  have e : (I 3 + 1).toInt = (I 3).toInt + 1 := by
    have := ia_add (I 3) 1 (by rw [show (1 : Int32).toInt = 1 from by decide]; omega) (by rw [show (1 : Int32).toInt = 1 from by decide]; omega)
    rw [this, show (1 : Int32).toInt = 1 from by decide]
  refine ⟨⟨by rw [h1, j6, a1], by rw [h3, j7, a2], ?_, ?_, ?_, ?_⟩, by rw [h3, e]⟩
  · rw [h3, e]; omega
  · rw [h3, e, h1]; omega
  · rw [h1]; exact a5
  · rw [h1]; exact a6
theorem TQ.byte {I J : Nat → Int32} {M K : Nat → Nat → Int32} (h : TQ I J M K) (hc : (I 3).toInt < (I 1).toInt) : BR (M 0 (I 3).toInt.toNat) (K 8 (I 3).toInt.toNat) := by
  obtain ⟨a1, a2, a3, a4, a5, a6⟩ := h
  exact a6 _ (by omega)
theorem lsh5 {L : Int64} {n d : Nat} (hL : L.toInt = (n : Int)) (hn : n < 2 ^ 40) (hd : d < 32) {x : Int32} (hx : x.toInt = (d : Int)) : ((L <<< ((5 : Int32).toInt64 &&& 63)) ||| x.toInt64).toInt = 32 * (n : Int) + (d : Int) := by
  have eL : L = lN n := by
    apply Int64.toInt_inj.mp
    rw [hL]
    exact (Int64.toInt_ofNat_of_lt (by omega)).symm
  have ex : x.toInt64 = lN d := by
    apply Int64.toInt_inj.mp
    rw [Int32.toInt_toInt64, hx]
    exact (Int64.toInt_ofNat_of_lt (by omega)).symm
  have es : L <<< ((5 : Int32).toInt64 &&& 63) = lN (n * 32) := by
    subst eL
    apply Int64.toInt_inj.mp
    have h5 : ((5 : Int32).toInt64 &&& 63) = 5 := by decide
    rw [h5]
    have hb : (lN n <<< (5 : Int64)).toBitVec.toNat = n * 32 := by
      rw [Int64.toBitVec_shiftLeft]
      rw [show (Int64.toBitVec 5).smod 64 = 5#64 from by decide]
      rw [BitVec.shiftLeft_eq', BitVec.toNat_shiftLeft]
      rw [show (lN n).toBitVec.toNat = n % 2 ^ 64 from rfl, show (5#64).toNat = 5 from by decide, Nat.shiftLeft_eq]
      omega
    show (lN n <<< (5 : Int64)).toBitVec.toInt = (lN (n * 32)).toBitVec.toInt
    have hb2 : (lN (n * 32)).toBitVec.toNat = n * 32 := by
      rw [show (lN (n * 32)).toBitVec.toNat = (n * 32) % 2 ^ 64 from rfl]; omega
    rw [BitVec.toInt_eq_toNat_cond, BitVec.toInt_eq_toNat_cond, hb, hb2]
  rw [es, ex]
  have ho : (lN (n * 32) ||| lN d).toBitVec.toNat = n * 32 + d := by
    rw [Int64.toBitVec_or, BitVec.toNat_or]
    rw [show (lN (n * 32)).toBitVec.toNat = (n * 32) % 2 ^ 64 from rfl, show (lN d).toBitVec.toNat = d % 2 ^ 64 from rfl, Nat.mod_eq_of_lt (by omega), Nat.mod_eq_of_lt (by omega)]
    have h := Nat.shiftLeft_add_eq_or_of_lt (a := n) (b := d) (i := 5) hd
    rw [Nat.shiftLeft_eq, show (2 : Nat) ^ 5 = 32 from by decide] at h
    omega
  show (lN (n * 32) ||| lN d).toBitVec.toInt = _
  rw [BitVec.toInt_eq_toNat_cond, ho]
  rw [if_pos (by omega)]
  omega
theorem pk_rg (b : Nat → Int) (s : Nat) : ∀ n, (∀ i, i < n → 97 ≤ b (s + i) ∧ b (s + i) ≤ 122) → 0 ≤ pk b s n ∧ pk b s n < 32 ^ n := by
  intro n
  induction n with
  | zero => intro _; exact ⟨Int.le_refl _, by show (0 : Int) < 32 ^ 0; decide⟩
  | succ n ih =>
    intro h
    have h1 := ih (fun i hi => h i (by omega))
    have h2 := h n (by omega)
    have e : (32 : Int) ^ (n + 1) = 32 * 32 ^ n := by rw [Int.pow_succ, Int.mul_comm]
    show 0 ≤ 32 * pk b s n + (b (s + n) - 96) ∧ 32 * pk b s n + (b (s + n) - 96) < 32 ^ (n + 1)
    rw [e]
    omega

/-! HANDS and COSTS of both -/
theorem bit1 {x : Int32} {b : Nat} (hb : b < 32) : ((x >>> (nI b &&& 31)) &&& 1) = 1 ↔ bt x b = true := by
  have h1 : ∀ i, i < 32 → (bt 1 i = true ↔ i = 0) := by decide +kernel
  have e0 : bt ((x >>> (nI b &&& 31)) &&& 1) 0 = bt x b := by
    rw [b_and, b_sshr b hb x (by omega), if_pos (by omega), (h1 0 (by omega)).mpr rfl, Bool.and_true, Nat.add_zero]
  constructor
  · intro h
    rw [← e0, h]
    exact (h1 0 (by omega)).mpr rfl
  · intro h
    apply b_ext
    intro i hi
    by_cases hi0 : i = 0
    · subst hi0
      rw [e0, h, (h1 0 (by omega)).mpr rfl]
    · have h2 : bt 1 i = false := by
        cases hb1 : bt 1 i with
        | false => rfl
        | true => exact absurd ((h1 i hi).mp hb1) hi0
      rw [b_and, h2, Bool.and_false]
theorem nI_self {x : Int32} (h : 0 ≤ x.toInt) : x = nI x.toInt.toNat := by
  apply t32
  have := Int32.toInt_lt x
  rw [nI_toInt (by omega)]
  omega
theorem isr {N : Nat} {I : Nat → Int32} {M : Nat → Nat → Int32} {a b r : Int32} (ha : 0 ≤ a.toInt) (hb : 0 ≤ b.toInt ∧ b.toInt < 30) (h : fX4_isRead N I M a b = some r) : (r = 1 ∧ bt (M 0 a.toInt.toNat) b.toInt.toNat = true) ∨ (r = 0 ∧ ¬ bt (M 0 a.toInt.toNat) b.toInt.toNat = true) := by
  unfold fX4_isRead at h
  obtain ⟨-, h⟩ := wb_n h
  have e : b = nI b.toInt.toNat := nI_self hb.1
  rcases ifr h with ⟨c, h⟩ | ⟨c, h⟩
  · left
    rw [e] at c
    exact ⟨(Option.some.inj h).symm, (bit1 (by omega)).mp c⟩
  · right
    refine ⟨(Option.some.inj h).symm, fun z => c ?_⟩
    rw [e]
    exact (bit1 (by omega)).mpr z
theorem ish_l {N : Nat} {J : Nat → Int32} {L : Int64} {K : Nat → Nat → Int32} {a b : Int32} (h0 : 0 ≤ (J 2).toInt) : ∀ (fu y : Nat) (v r : Int32), fX12_isHand_L5 N J L K a b fu v (nI y) = some r → (y : Int) ≤ (J 2).toInt → (v = 0 ∨ v = 1) → (r = 1 ∧ (v = 1 ∨ ∃ k : Nat, y ≤ k ∧ (k : Int) < (J 2).toInt ∧ K 6 k = a ∧ K 5 k = b)) ∨ (r = 0 ∧ v = 0 ∧ ¬ ∃ k : Nat, y ≤ k ∧ (k : Int) < (J 2).toInt ∧ K 6 k = a ∧ K 5 k = b) := by
  have hlt := Int32.toInt_lt (J 2)
  intro fu
  induction fu with
  | zero => intro y v r h; cases (show none = some r from h)
  | succ fu ih =>
    intro y v r h hy hv
    rw [fX12_isHand_L5.eq_2] at h
    have ty : (nI y).toInt = (y : Int) := nI_toInt (by omega)
    rcases ifr h with ⟨c, h⟩ | ⟨c, h⟩
    · have c := (le32 rfl ty).mp c
      have h := Option.some.inj (wb_y h).2
      subst h
      rcases hv with hv | hv
      · right
        refine ⟨hv, hv, ?_⟩
        rintro ⟨k, k1, k2, -⟩
        omega
      · exact Or.inl ⟨hv, Or.inl hv⟩
    · have c : ¬ _ := fun z => c ((le32 rfl ty).mpr z)
      have hy2 : ((y + 1 : Nat) : Int) ≤ (J 2).toInt := by omega
      have cy : (nI y).toNatClampNeg = y := nI_clamp (by omega)
      rcases hv with hv | hv
      · have h := wb_t hv h
        obtain ⟨-, h⟩ := wb_n h
        rw [cy] at h
        have nomt : ∀ v2 : Int32, v2 = nI y + 1 → ¬ (K 6 y = a ∧ K 5 y = b) → fX12_isHand_L5 N J L K a b fu 0 v2 = some r → (r = 1 ∧ (v = 1 ∨ ∃ k : Nat, y ≤ k ∧ (k : Int) < (J 2).toInt ∧ K 6 k = a ∧ K 5 k = b)) ∨ (r = 0 ∧ v = 0 ∧ ¬ ∃ k : Nat, y ≤ k ∧ (k : Int) < (J 2).toInt ∧ K 6 k = a ∧ K 5 k = b) := by
          intro v2 e2 hn h
          rw [e2, nI_1] at h
          rcases ih (y + 1) 0 r h hy2 (Or.inl rfl) with ⟨w1, w2⟩ | ⟨w1, -, w2⟩
          · left
            refine ⟨w1, Or.inr ?_⟩
            rcases w2 with w2 | ⟨k, k1, k2, k3, k4⟩
            · exact absurd w2 (by decide)
            · exact ⟨k, by omega, k2, k3, k4⟩
          · right
            refine ⟨w1, hv, ?_⟩
            rintro ⟨k, k1, k2, k3, k4⟩
            by_cases hk : k = y
            · subst hk; exact hn ⟨k3, k4⟩
            · exact w2 ⟨k, by omega, k2, k3, k4⟩
        rcases ifr h with ⟨d, h⟩ | ⟨d, h⟩
        · obtain ⟨-, h⟩ := wb_n h
          rcases ifr h with ⟨d2, h⟩ | ⟨d2, h⟩
          · obtain ⟨v4, e4, h⟩ := wb_v h
            rw [e4, nI_1] at h
            left
            rcases ih (y + 1) 1 r h hy2 (Or.inr rfl) with ⟨w1, -⟩ | ⟨-, w2, -⟩
            · exact ⟨w1, Or.inr ⟨y, Nat.le_refl _, by omega, d, d2⟩⟩
            · exact absurd w2 (by decide)
          · obtain ⟨v3, e3, h⟩ := wb_v h
            exact nomt v3 e3 (fun z => d2 z.2) h
        · obtain ⟨v2, e2, h⟩ := wb_v h
          exact nomt v2 e2 (fun z => d z.1) h
      · have h := wb_f (by rw [hv]; decide) h
        obtain ⟨v1, e1, h⟩ := wb_v h
        rw [e1, nI_1] at h
        left
        rcases ih (y + 1) 1 r h hy2 (Or.inr rfl) with ⟨w1, -⟩ | ⟨-, w2, -⟩
        · exact ⟨w1, Or.inl hv⟩
        · exact absurd w2 (by decide)
theorem hnd_eq {N N2 : Nat} {I I' J : Nat → Int32} {L : Int64} {M m K : Nat → Nat → Int32} {a b r s : Int32} (ht : HT I M J K) (hm : m 0 = M 6) (ha : 0 ≤ a.toInt ∧ a.toInt < 30) (hb : 0 ≤ b.toInt ∧ b.toInt < 30) (h : fX4_isRead N I' m a b = some r) (g : fX12_isHand N2 J L K a b = some s) : r = s := by
  obtain ⟨-, -, -, h2, -, -, hh⟩ := ht
  have e := hh a.toInt.toNat b.toInt.toNat (by omega) (by omega)
  have e2 : (∃ k : Nat, (k : Int) < (J 2).toInt ∧ (K 6 k).toInt = (a.toInt.toNat : Int) ∧ (K 5 k).toInt = (b.toInt.toNat : Int)) ↔ ∃ k : Nat, 0 ≤ k ∧ (k : Int) < (J 2).toInt ∧ K 6 k = a ∧ K 5 k = b := by
    constructor
    · rintro ⟨k, k1, k2, k3⟩
      exact ⟨k, Nat.zero_le _, k1, t32 (by omega), t32 (by omega)⟩
    · rintro ⟨k, -, k1, k2, k3⟩
      exact ⟨k, k1, by rw [k2]; omega, by rw [k3]; omega⟩
  rw [e2] at e
  unfold fX12_isHand at g
  rcases isr ha.1 hb h with ⟨w1, w2⟩ | ⟨w1, w2⟩
  · rw [hm] at w2
    rcases ish_l h2.1 N2 0 0 s g (by omega) (Or.inl rfl) with ⟨u1, -⟩ | ⟨-, -, u⟩
    · rw [w1, u1]
    · exact absurd (e.mp w2) u
  · rw [hm] at w2
    rcases ish_l h2.1 N2 0 0 s g (by omega) (Or.inl rfl) with ⟨-, u⟩ | ⟨u1, -, -⟩
    · rcases u with u | u
      · exact absurd u (by decide)
      · exact absurd (e.mpr u) w2
    · rw [w1, u1]
theorem dv30 {x : Int32} (h : 0 ≤ x.toInt) (h2 : x.toInt ≤ 389) : (0 ≤ (x / 30).toInt ∧ (x / 30).toInt < 30) ∧ (0 ≤ (x - x / 30 * 30).toInt ∧ (x - x / 30 * 30).toInt < 30) ∧ (x / 30).toInt = x.toInt / 30 ∧ (x - x / 30 * 30).toInt = x.toInt % 30 := by
  have n30 : (30 : Int32).toInt = 30 := by decide
  have a := ia_div x 30 30 n30 (by omega) h
  have b := ia_rem x 30 30 n30 (by omega) h
  omega
theorem mis_eq {N N2 : Nat} {I I' J : Nat → Int32} {L : Int64} {M m K : Nat → Nat → Int32} {x y r s : Int32} (ht : HT I M J K) (hm : m 0 = M 6) (hx : 0 ≤ x.toInt ∧ x.toInt ≤ 389) (hy : 0 ≤ y.toInt ∧ y.toInt ≤ 389) (h : fX4_misreading N I' m x y = some r) (g : fX12_beside N2 J L K x y = some s) : r = s ∧ (r = 0 ∨ r = 1 ∨ r = 2 ∨ r = 9) := by
  unfold fX4_misreading fX4_misreading_J70 at h
  unfold fX12_beside at g
  have dx := dv30 hx.1 hx.2
  have dy := dv30 hy.1 hy.2
  rcases ifr h with ⟨c, h⟩ | ⟨c, h⟩
  · have g := Option.some.inj (wb_t c g)
    have h := Option.some.inj h
    exact ⟨h.symm.trans g, Or.inl h.symm⟩
  · have g := wb_f c g
    rcases ifr h with ⟨c2, h⟩ | ⟨c2, h⟩
    · have g := wb_t c2 g
      obtain ⟨r2, e2, h⟩ := wb_b h
      obtain ⟨s2, f2, g⟩ := wb_b g
      have e := hnd_eq ht hm dx.2.1 dy.2.1 e2 f2
      subst e
      rcases ifr h with ⟨c3, h⟩ | ⟨c3, h⟩
      · have g := Option.some.inj (wb_t c3 g)
        have h := Option.some.inj h
        exact ⟨h.symm.trans g, Or.inr (Or.inr (Or.inr h.symm))⟩
      · have g := Option.some.inj (wb_f c3 g)
        have h := Option.some.inj h
        exact ⟨h.symm.trans g, Or.inr (Or.inl h.symm)⟩
    · have g := wb_f c2 g
      rcases ifr h with ⟨c3, h⟩ | ⟨c3, h⟩
      · have g := wb_t c3 g
        obtain ⟨r2, e2, h⟩ := wb_b h
        obtain ⟨s2, f2, g⟩ := wb_b g
        have e := hnd_eq ht hm dx.1 dy.1 e2 f2
        subst e
        rcases ifr h with ⟨c4, h⟩ | ⟨c4, h⟩
        · have g := Option.some.inj (wb_t c4 g)
          have h := Option.some.inj h
          exact ⟨h.symm.trans g, Or.inr (Or.inr (Or.inr h.symm))⟩
        · have g := Option.some.inj (wb_f c4 g)
          have h := Option.some.inj h
          exact ⟨h.symm.trans g, Or.inr (Or.inr (Or.inl h.symm))⟩
      · have g := Option.some.inj (wb_f c3 g)
        have h := Option.some.inj h
        exact ⟨h.symm.trans g, Or.inr (Or.inr (Or.inr h.symm))⟩
theorem cst_eq {N N2 : Nat} {I I' J : Nat → Int32} {L : Int64} {M m K : Nat → Nat → Int32} {x y r s : Int32} (ht : HT I M J K) (hm : m 0 = M 6) (hx : 0 ≤ x.toInt ∧ x.toInt ≤ 389) (hy : 0 ≤ y.toInt ∧ y.toInt ≤ 389) (h : fX4_costBeside N I' m x y = some r) (g : fX12_costOf N2 J L K x y = some s) : r = s ∧ 0 ≤ r.toInt ∧ r.toInt ≤ 9 := by
  unfold fX4_costBeside at h
  unfold fX12_costOf at g
  obtain ⟨r1, e1, h⟩ := wb_b h
  obtain ⟨s1, f1, g⟩ := wb_b g
  obtain ⟨e, k⟩ := mis_eq ht hm hx hy e1 f1
  subst e
  rcases ifr h with ⟨c, h⟩ | ⟨c, h⟩
  · have g := Option.some.inj (wb_t c g)
    have h := Option.some.inj h
    refine ⟨h.symm.trans g, ?_⟩
    rw [← h]; decide
  · have g := Option.some.inj (wb_f c g)
    have h := Option.some.inj h
    refine ⟨h.symm.trans g, ?_⟩
    rw [← h]
    rcases k with k | k | k | k <;> rw [k] <;> decide

/-! a WHEEL's ENTRY: class and reference -/
def DR (A B : Nat → Nat → Int32) : Prop := ∀ e : Nat, e < 22 → A 1 e = B 16 e
theorem j193 {N : Nat} {J : Nat → Int32} {L : Int64} {K : Nat → Nat → Int32} {S : (Nat → Int32) × Int64 × (Nat → Nat → Int32)} (h : fX12_readsEntry_J193 N J L K = some S) : (if J 8 = 3 then fX12_need N J L K 1 else fX12_need N J L K 0) = some S := by
  unfold fX12_readsEntry_J193 at h
  rcases ifr h with ⟨c, h⟩ | ⟨c, h⟩
  · rw [if_pos c]
    obtain ⟨r, e, h⟩ := wb_b h
    rw [e]; exact h
  · rw [if_neg c]
    obtain ⟨r, e, h⟩ := wb_b h
    rw [e]; exact h
theorem n193 {N : Nat} {J : Nat → Int32} {L : Int64} {K : Nat → Nat → Int32} {S : (Nat → Int32) × Int64 × (Nat → Nat → Int32)} (j4 : ¬ J 4 = 0) (h : fX12_readsEntry_J193 N J L K = some S) : S = (J, L, K) := by
  rcases ifr (j193 h) with ⟨c, h⟩ | ⟨c, h⟩
  · exact need_n j4 h
  · exact need_n j4 h
theorem n168 {N : Nat} {J : Nat → Int32} {L : Int64} {K : Nat → Nat → Int32} {e v a b : Int32} {S : (Nat → Int32) × Int64 × (Nat → Nat → Int32)} (j4 : ¬ J 4 = 0) (h : fX12_readsEntry_J168 N J L K e v a b = some S) : S = (J, L, K) := by
  unfold fX12_readsEntry_J168 at h
  obtain ⟨r3, e3, h⟩ := wb_b h
  have e3 := num_n j4 e3
  subst e3
  obtain ⟨v4, e4, h⟩ := wb_v h
  obtain ⟨r5, e5, h⟩ := wb_b h
  rcases good0 e5 with ⟨-, q⟩ | ⟨q, -⟩
  · exact absurd q j4
  · exact n193 j4 (wb_t q h)
theorem n144 {N : Nat} {J : Nat → Int32} {L : Int64} {K : Nat → Nat → Int32} {k e a b : Int32} {S : (Nat → Int32) × Int64 × (Nat → Nat → Int32)} (j4 : ¬ J 4 = 0) (h : fX12_readsEntry_J144 N J L K k e a b = some S) : S = (J, L, K) := by
  unfold fX12_readsEntry_J144 fX12_readsEntry_J166 at h
  obtain ⟨r3, e3, h⟩ := wb_b h
  have e3 := num_n j4 e3
  subst e3
  obtain ⟨v4, e4, h⟩ := wb_v h
  rcases ifr h with ⟨c, h⟩ | ⟨c, h⟩
  · rcases ifr h with ⟨d, h⟩ | ⟨d, h⟩
    · exact n168 j4 h
    · exact n168 j4 h
  · exact n168 j4 h
theorem n129 {N : Nat} {J : Nat → Int32} {L : Int64} {K : Nat → Nat → Int32} {k e : Int32} {S : (Nat → Int32) × Int64 × (Nat → Nat → Int32)} (j4 : ¬ J 4 = 0) (h : fX12_readsEntry_J129 N J L K k e = some S) : S = (J, L, K) := by
  unfold fX12_readsEntry_J129 at h
  rcases ifr h with ⟨c, h⟩ | ⟨c, h⟩
  · exact n144 j4 h
  · exact n144 j4 h
/-- how an ENTRY ends for both -/
def EO (I : Nat → Int32) (M0 M : Nat → Nat → Int32) (R : Int32 × (Nat → Int32) × (Nat → Nat → Int32) × (Nat → Int32) × (Nat → Nat → Int32)) (S : (Nat → Int32) × Int64 × (Nat → Nat → Int32)) : Prop :=
  (R.1 = 1 ∧ TK R.2.2.2.1 S.1 S.2.1 M S.2.2 ∧ S.1 4 = 0 ∧ DR R.2.2.1 S.2.2 ∧ R.2.2.2.2 = M ∧ R.2.2.1 0 = M0 0 ∧ (I 3).toInt ≤ (R.2.2.2.1 2).toInt ∧ PsT R.2.2.2.1 ∧ R.2.2.2.1 7 = I 7) ∨ (R.1 = 0 ∧ FT R.2.2.2.1 S.1 ∧ R.2.2.2.2 = M ∧ R.2.2.1 0 = M0 0)
theorem e_tail {N N2 : Nat} {M K M0 : Nat → Nat → Int32} {I J I0 : Nat → Int32} {L : Int64} {e v a b : Int32} {R : Int32 × (Nat → Int32) × (Nat → Nat → Int32) × (Nat → Int32) × (Nat → Nat → Int32)} {S : (Nat → Int32) × Int64 × (Nat → Nat → Int32)} (tk : TK I J L M K) (j4 : J 4 = 0) (d : DR M0 K)
    (h : ((fX9_takeNumber N I M a b).bind fun r4 => if r4.1 = 0 then (some ((0 : Int32), I0, M0, r4.2.1, r4.2.2)) else if (e < 0 ∨ 22 ≤ (e).toNatClampNeg) then none else (some (wb_um M0 1 (e).toNatClampNeg (((30 : Int32) * v) + (r4.2.1 6)))).bind fun M0_5 => (fX9_takeStop N r4.2.1 r4.2.2).bind fun r6 => if r6.1 &&& 1 = r6.1 then some (r6.1, I0, M0_5, r6.2.1, r6.2.2) else none) = some R)
    (g : fX12_readsEntry_J168 N2 J L K e v b a = some S) : EO I M0 M R S := by
  unfold fX12_readsEntry_J168 at g
  obtain ⟨r4, e4, h⟩ := wb_b h
  obtain ⟨s3, f3, g⟩ := wb_b g
  obtain ⟨v4, ev4, g⟩ := wb_v g
  obtain ⟨s5, f5, g⟩ := wb_b g
  rcases num_tk tk j4 e4 f3 with ⟨c1, c2, c3, c4, c5, c6, c7, c8, c9, c10⟩ | ⟨c1, c2, c3, c4⟩
  · have h := wb_f (by rw [c1]; decide) h
    obtain ⟨hn, h⟩ := wb_n h
    obtain ⟨M5, eM5, h⟩ := wb_v h
    rcases good0 f5 with ⟨q, -⟩ | ⟨-, q⟩
    · have g := wb_f (by rw [q]; decide) g
      obtain ⟨-, g⟩ := wb_n g
      obtain ⟨K6, eK6, g⟩ := wb_v g
      obtain ⟨r6, e6, h⟩ := wb_b h
      have h := (wb_y h).2
      have h := Option.some.inj h
      subst h
      rw [c7] at e6
      have tk2 : TK r4.2.1 s3.2.1 s3.2.2.1 M K6 := by
        rw [eK6, c8]; exact c2
      have d2 : DR M5 K6 := by
        intro i hi
        rw [eM5, eK6, c8, ev4, ← c4]
        show (if (1 : Nat) = 1 then upd (M0 1) e.toNatClampNeg _ else M0 1) i = (if (16 : Nat) = 16 then upd (K 16) e.toNatClampNeg _ else K 16) i
        rw [if_pos rfl, if_pos rfl]
        unfold upd
        by_cases hie : i = e.toNatClampNeg
        · rw [if_pos hie, if_pos hie]
        · rw [if_neg hie, if_neg hie]; exact d i hi
      have m5 : M5 0 = M0 0 := by rw [eM5]; rfl
      rcases stop_tk tk2 c3 e6 (j193 g) with ⟨k1, k2, k3, k4, k5, k6, k7, k8⟩ | ⟨k1, k2, k3, k4⟩
      · left
        refine ⟨k1, ?_, k3, ?_, k4, m5, ?_, k7, k8.trans c10⟩
        · rw [k5]; exact k2
        · rw [k5]; exact d2
        · have := c2.2.2.2.2.1
          show (I 3).toInt ≤ (r6.2.1 2).toInt
          omega
      · right
        exact ⟨k1, k4, k2, m5⟩
    · exact absurd c3 q
  · right
    have h := wb_t c1 h
    have h := Option.some.inj h
    subst h
    rcases good0 f5 with ⟨-, q⟩ | ⟨q, -⟩
    · exact absurd q c4.2
    · have g := n193 c4.2 (wb_t q g)
      subst g
      exact ⟨rfl, c4, c2, rfl⟩
/-- both numbers of an ENTRY -/
theorem e_tail2 {N N2 : Nat} {M K M0 : Nat → Nat → Int32} {I J I0 : Nat → Int32} {L : Int64} {e k : Int32} {R : Int32 × (Nat → Int32) × (Nat → Nat → Int32) × (Nat → Int32) × (Nat → Nat → Int32)} {S : (Nat → Int32) × Int64 × (Nat → Nat → Int32)} (hk : ¬ k = 10) (tk : TK I J L M K) (j4 : J 4 = 0) (d : DR M0 K)
    (h : ((fX9_takeNumber N I M (0 : Int32) (11 : Int32)).bind fun r2 => if r2.1 = 0 then (some ((0 : Int32), I0, M0, r2.2.1, r2.2.2)) else (some ((r2.2.1 6))).bind fun v3 => (fX9_takeNumber N r2.2.1 r2.2.2 (0 : Int32) (29 : Int32)).bind fun r4 => if r4.1 = 0 then (some ((0 : Int32), I0, M0, r4.2.1, r4.2.2)) else if (e < 0 ∨ 22 ≤ (e).toNatClampNeg) then none else (some (wb_um M0 1 (e).toNatClampNeg (((30 : Int32) * v3) + (r4.2.1 6)))).bind fun M0_5 => (fX9_takeStop N r4.2.1 r4.2.2).bind fun r6 => if r6.1 &&& 1 = r6.1 then some (r6.1, I0, M0_5, r6.2.1, r6.2.2) else none) = some R)
    (g : fX12_readsEntry_J129 N2 J L K k e = some S) : EO I M0 M R S := by
  unfold fX12_readsEntry_J129 at g
  have g := wb_f hk g
  unfold fX12_readsEntry_J144 at g
  obtain ⟨r2, e2, h⟩ := wb_b h
  obtain ⟨s7, f7, g⟩ := wb_b g
  obtain ⟨v8, ev8, g⟩ := wb_v g
  have g := wb_f hk g
  unfold fX12_readsEntry_J166 at g
  rcases num_tk tk j4 e2 f7 with ⟨c1, c2, c3, c4, c5, c6, c7, c8, c9, c10⟩ | ⟨c1, c2, c3, c4⟩
  · have h := wb_f (by rw [c1]; decide) h
    obtain ⟨v3, ev3, h⟩ := wb_v h
    rw [c7] at h
    rw [c8] at g
    have ev : v8 = v3 := by rw [ev8, ev3, c4]
    rw [ev] at g
    rcases e_tail c2 c3 d h g with ⟨k1, k2, k3, k4, k5, k6, k7, k8, k9⟩ | k
    · left
      refine ⟨k1, k2, k3, k4, k5, k6, ?_, k8, k9.trans c10⟩
      have := c2.2.2.2.2.1
      omega
    · exact Or.inr k
  · right
    have h := wb_t c1 h
    have h := Option.some.inj h
    subst h
    have g := n168 c4.2 g
    subst g
    exact ⟨rfl, c4, c2, rfl⟩
/-- a DATE's numbers -/
theorem e_tail3 {N N2 : Nat} {M K M0 : Nat → Nat → Int32} {I J I0 : Nat → Int32} {L : Int64} {R : Int32 × (Nat → Int32) × (Nat → Nat → Int32) × (Nat → Int32) × (Nat → Nat → Int32)} {S : (Nat → Int32) × Int64 × (Nat → Nat → Int32)} (tk : TK I J L M K) (j4 : J 4 = 0) (d : DR M0 K)
    (h : ((fX9_takeNumber N I M (0 : Int32) (12 : Int32)).bind fun r5 => if r5.1 = 0 then (some ((0 : Int32), I0, M0, r5.2.1, r5.2.2)) else (some ((r5.2.1 6))).bind fun v6 => if v6 = (12 : Int32) then (fX1_readDate_J41 N I0 M0 r5.2.1 r5.2.2 v6 (4 : Int32) (0 : Int32)) else fX1_readDate_J41 N I0 M0 r5.2.1 r5.2.2 v6 (29 : Int32) (0 : Int32)) = some R)
    (g : fX12_readsEntry_J129 N2 J L K 10 21 = some S) : EO I M0 M R S := by
  unfold fX12_readsEntry_J129 at g
  have g := wb_t (c := (10 : Int32) = 10) rfl g
  unfold fX12_readsEntry_J144 at g
  obtain ⟨r2, e2, h⟩ := wb_b h
  obtain ⟨s7, f7, g⟩ := wb_b g
  obtain ⟨v8, ev8, g⟩ := wb_v g
  have g := wb_t (c := (10 : Int32) = 10) rfl g
  unfold fX12_readsEntry_J166 at g
  rcases num_tk tk j4 e2 f7 with ⟨c1, c2, c3, c4, c5, c6, c7, c8, c9, c10⟩ | ⟨c1, c2, c3, c4⟩
  · have h := wb_f (by rw [c1]; decide) h
    obtain ⟨v3, ev3, h⟩ := wb_v h
    rw [c7] at h
    rw [c8] at g
    have ev : v8 = v3 := by rw [ev8, ev3, c4]
    rw [ev] at g
    have fin : EO r2.2.1 M0 M R S → EO I M0 M R S := by
      rintro (⟨k1, k2, k3, k4, k5, k6, k7, k8, k9⟩ | k)
      · left
        refine ⟨k1, k2, k3, k4, k5, k6, ?_, k8, k9.trans c10⟩
        have := c2.2.2.2.2.1
        omega
      · exact Or.inr k
    unfold fX1_readDate_J41 at h
    rcases ifr h with ⟨q, h⟩ | ⟨q, h⟩
    · exact fin (e_tail c2 c3 d h (wb_t q g))
    · exact fin (e_tail c2 c3 d h (wb_f q g))
  · right
    have h := wb_t c1 h
    have h := Option.some.inj h
    subst h
    rcases ifr g with ⟨q, g⟩ | ⟨q, g⟩
    · have g := n168 c4.2 g
      subst g
      exact ⟨rfl, c4, c2, rfl⟩
    · have g := n168 c4.2 g
      subst g
      exact ⟨rfl, c4, c2, rfl⟩

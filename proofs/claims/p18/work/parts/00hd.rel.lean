/-! words -/
def zb (w i : Nat) : Int := ((zByt.getD w []).getD i 0).toInt
def zl (w : Nat) : Nat := zLen.getD w 0
def IsW (I : Nat → Int32) (M : Nat → Nat → Int32) (w : Nat) : Prop := I 4 = 1 ∧ (I 3).toInt - (I 2).toInt = (zl w : Int) ∧ ∀ i : Nat, i < zl w → (M 0 ((I 2).toInt.toNat + i)).toInt = zb w i
theorem zl_L : ∀ w, w < 19 → (zL w).toInt = (zl w : Int) ∧ zl w ≤ 7 ∧ 2 ≤ zl w := by decide +kernel
theorem zc_b : ∀ w, w < 19 → ∀ i, i < zl w → (zC w (nI i)).toInt = zb w i ∧ 97 ≤ zb w i ∧ zb w i ≤ 122 := by decide +kernel
theorem isw_l {N : Nat} {I : Nat → Int32} {M : Nat → Nat → Int32} {w : Nat} (hw : w < 19) (h0 : 0 ≤ (I 2).toInt) (h6 : (I 2).toInt ≤ 600) : ∀ (fu y : Nat) (r : Int32), y ≤ zl w → fX9_isWord_L28 N I M w fu (nI y) = some r → (∀ i, i < y → (M 0 ((I 2).toInt.toNat + i)).toInt = zb w i) → (r = 1 ∧ ∀ i, i < zl w → (M 0 ((I 2).toInt.toNat + i)).toInt = zb w i) ∨ (r = 0 ∧ ¬ ∀ i, i < zl w → (M 0 ((I 2).toInt.toNat + i)).toInt = zb w i) := by
  have hl := zl_L w hw
  intro fu
  induction fu with
  | zero => intro y r hy h; cases (show none = some r from h)
  | succ fu ih =>
    intro y r hy h hm
    rw [fX9_isWord_L28.eq_2] at h
    have ty : (nI y).toInt = (y : Int) := nI_toInt (by omega)
    rcases ifr h with ⟨c, h⟩ | ⟨c, h⟩
    · have c := (le32 hl.1 ty).mp c
      exact Or.inl ⟨(Option.some.inj h).symm, fun i hi => hm i (by omega)⟩
    · have c : ¬ _ := fun z => c ((le32 hl.1 ty).mpr z)
      obtain ⟨-, h⟩ := wb_n h
      obtain ⟨-, h⟩ := wb_n h
      have hy2 : y < zl w := by omega
      have ea : (I 2 + nI y).toNatClampNeg = (I 2).toInt.toNat + y := by
        have t := ia_add (I 2) (nI y) (by omega) (by omega)
        rw [cl32, t, ty]
        omega
      rcases ifr h with ⟨d, h⟩ | ⟨d, h⟩
      · obtain ⟨v, ev, h⟩ := wb_v h
        rw [ev, nI_1] at h
        refine ih (y + 1) r (by omega) h (fun i hi => ?_)
        by_cases hi2 : i < y
        · exact hm i hi2
        · have ei : i = y := by omega
          subst ei
          rw [← ea, d]
          exact (zc_b w hw i hy2).1
      · refine Or.inr ⟨(Option.some.inj h).symm, fun q => d ?_⟩
        apply t32
        rw [ea, q y hy2, (zc_b w hw y hy2).1]
theorem isw {N : Nat} {I : Nat → Int32} {M : Nat → Nat → Int32} {w : Nat} {r : Int32} (hw : w < 19) (h0 : 0 ≤ (I 2).toInt) (h1 : (I 2).toInt ≤ (I 3).toInt) (h6 : (I 3).toInt ≤ 600) (h : fX9_isWord N I M w = some r) : (r = 1 ∧ IsW I M w) ∨ (r = 0 ∧ ¬ IsW I M w) := by
  unfold fX9_isWord at h
  have hl := zl_L w hw
  have dd := dif32 (a := I 3) (b := I 2) (by omega) h0
  rcases ifr h with ⟨c, h⟩ | ⟨c, h⟩
  · rcases ifr h with ⟨d, h⟩ | ⟨d, h⟩
    · have d := (eq32 dd hl.1).mp d
      rcases isw_l hw h0 (by omega) N 0 r (Nat.zero_le _) h (fun i hi => absurd hi (Nat.not_lt_zero i)) with ⟨e, q⟩ | ⟨e, q⟩
      · exact Or.inl ⟨e, c, d, q⟩
      · exact Or.inr ⟨e, fun z => q z.2.2⟩
    · exact Or.inr ⟨(Option.some.inj h).symm, fun z => d ((eq32 dd hl.1).mpr z.2.1)⟩
  · exact Or.inr ⟨(Option.some.inj h).symm, fun z => c z.1⟩
def wz (k : Nat) : Nat := [10, 11, 12, 13, 14, 15, 16, 17, 18, 0, 1, 3, 6, 7, 8, 9, 4, 5, 2].getD k 0
theorem wz_lt : ∀ k, k < 19 → wz k < 19 := by decide
theorem wz_inj : ∀ k, k < 19 → ∀ k', k' < 19 → zl (wz k) = zl (wz k') → (∀ i, i < zl (wz k) → zb (wz k) i = zb (wz k') i) → k = k' := by decide +kernel
theorem IsW.uniq {I : Nat → Int32} {M : Nat → Nat → Int32} {k k' : Nat} (hk : k < 19) (hk' : k' < 19) (h : IsW I M (wz k)) (h' : IsW I M (wz k')) : k = k' := by
  have e : zl (wz k) = zl (wz k') := by
    have a := h.2.1
    have b := h'.2.1
    omega
  refine wz_inj k hk k' hk' e (fun i hi => ?_)
  rw [← h.2.2 i hi, h'.2.2 i (by omega)]
theorem lets0 : ∀ k, k < 19 → (fX12_letters 0 (nI k)).map Int64.toInt = some (pk (zb (wz k)) 0 (zl (wz k))) := by decide +kernel
theorem letsN {N : Nat} (x : Int32) : fX12_letters N x = fX12_letters 0 x := rfl
theorem pk_inj (b c : Nat → Int) (s t : Nat) : ∀ n m, (∀ i, i < n → 97 ≤ b (s + i) ∧ b (s + i) ≤ 122) → (∀ i, i < m → 97 ≤ c (t + i) ∧ c (t + i) ≤ 122) → pk b s n = pk c t m → n = m ∧ ∀ i, i < n → b (s + i) = c (t + i) := by
  intro n
  induction n with
  | zero =>
    intro m hb hc h
    cases m with
    | zero => exact ⟨rfl, fun i hi => absurd hi (Nat.not_lt_zero i)⟩
    | succ m =>
      exfalso
      have h1 := (pk_rg c t m (fun i hi => hc i (by omega))).1
      have h2 := hc m (by omega)
      have h : (0 : Int) = 32 * pk c t m + (c (t + m) - 96) := h
      omega
  | succ n ih =>
    intro m hb hc h
    cases m with
    | zero =>
      exfalso
      have h1 := (pk_rg b s n (fun i hi => hb i (by omega))).1
      have h2 := hb n (by omega)
      have h : 32 * pk b s n + (b (s + n) - 96) = (0 : Int) := h
      omega
    | succ m =>
      have h2 := hb n (by omega)
      have h3 := hc m (by omega)
      have h : 32 * pk b s n + (b (s + n) - 96) = 32 * pk c t m + (c (t + m) - 96) := h
      obtain ⟨e, q⟩ := ih m (fun i hi => hb i (by omega)) (fun i hi => hc i (by omega)) (by omega)
      subst e
      refine ⟨rfl, fun i hi => ?_⟩
      by_cases hi2 : i < n
      · exact q i hi2
      · have ei : i = n := by omega
        subst ei
        omega
theorem lgc0 {a b : Int64} : lg_cmp a b = 0 ↔ a = b := by
  unfold lg_cmp
  constructor
  · intro h
    by_cases h1 : a > b
    · rw [if_pos h1] at h; exact absurd h (by decide)
    · rw [if_neg h1] at h
      by_cases h2 : a = b
      · exact h2
      · rw [if_neg h2] at h; exact absurd h (by decide)
  · intro h
    subst h
    rw [if_neg (Int64.lt_irrefl), if_pos rfl]
theorem kw_l {N : Nat} {I J : Nat → Int32} {L : Int64} {M K : Nat → Nat → Int32} (w : TW I L M) (h4 : I 4 = 1) (h0 : 0 ≤ (I 2).toInt) (h1 : (I 2).toInt ≤ (I 3).toInt) (h7 : (I 3).toInt - (I 2).toInt ≤ 7) : ∀ (fu y : Nat) (r : Int32), y ≤ 19 → fX12_knownWord_L21 N J L K fu (nI y) = some r → (∀ k, k < y → ¬ IsW I M (wz k)) → (∃ k, k < 19 ∧ r = nI k ∧ IsW I M (wz k)) ∨ (r = -1 ∧ ∀ k, k < 19 → ¬ IsW I M (wz k)) := by
  intro fu
  induction fu with
  | zero => intro y r hy h; cases (show none = some r from h)
  | succ fu ih =>
    intro y r hy h hm
    rw [fX12_knownWord_L21.eq_2] at h
    have ty : (nI y).toInt = (y : Int) := nI_toInt (by omega)
    rcases ifr h with ⟨c, h⟩ | ⟨c, h⟩
    · have c := (le32 (x := 19) (by decide) ty).mp c
      exact Or.inr ⟨(Option.some.inj h).symm, fun k hk => hm k (by omega)⟩
    · have c : ¬ _ := fun z => c ((le32 (x := 19) (by decide) ty).mpr z)
      have hy2 : y < 19 := by omega
      obtain ⟨r1, e1, h⟩ := wb_b h
      have el : r1.toInt = pk (zb (wz y)) 0 (zl (wz y)) := by
        have t := lets0 y hy2
        rw [letsN] at e1
        rw [e1] at t
        exact Option.some.inj t
      have ew := w.2 (by omega)
      have hz := zl_L (wz y) (wz_lt y hy2)
      have key : r1 = L ↔ IsW I M (wz y) := by
        rw [← Int64.toInt_inj, el, ew]
        constructor
        · intro q
          obtain ⟨e, q⟩ := pk_inj (zb (wz y)) (fun j => (M 0 j).toInt) 0 (I 2).toInt.toNat _ _ (fun i hi => by
            rw [Nat.zero_add]
            exact (zc_b (wz y) (wz_lt y hy2) i hi).2) (fun i hi => w.1 ((I 2).toInt.toNat + i) (by omega) (by omega)) q
          refine ⟨h4, by omega, fun i hi => ?_⟩
          have := q i hi
          rw [Nat.zero_add] at this
          exact this.symm
        · intro q
          have en : ((I 3).toInt - (I 2).toInt).toNat = zl (wz y) := by
            have := q.2.1
            omega
          rw [en]
          have : ∀ n, n ≤ zl (wz y) → pk (zb (wz y)) 0 n = pk (fun j => (M 0 j).toInt) (I 2).toInt.toNat n := by
            intro n
            induction n with
            | zero => intro _; rfl
            | succ n ihn =>
              intro hn
              show 32 * pk _ _ n + (zb (wz y) (0 + n) - 96) = 32 * pk _ _ n + ((M 0 ((I 2).toInt.toNat + n)).toInt - 96)
              rw [ihn (by omega), q.2.2 n (by omega), Nat.zero_add]
          exact this _ (Nat.le_refl _)
      rcases ifr h with ⟨d, h⟩ | ⟨d, h⟩
      · exact Or.inl ⟨y, hy2, (Option.some.inj h).symm, key.mp (lgc0.mp d)⟩
      · obtain ⟨v, ev, h⟩ := wb_v h
        rw [ev, nI_1] at h
        refine ih (y + 1) r (by omega) h (fun k hk => ?_)
        by_cases hk2 : k < y
        · exact hm k hk2
        · have ek : k = y := by omega
          subst ek
          exact fun q => d (lgc0.mpr (key.mpr q))
/-- the word that the reference knows, and the class's words -/
theorem kw {N : Nat} {I J : Nat → Int32} {L : Int64} {M K : Nat → Nat → Int32} {r : Int32} (tk : TK I J L M K) (h : fX12_knownWord N J L K = some r) : (∀ k, k < 19 → (r = nI k ↔ IsW I M (wz k))) ∧ (r = -1 ∨ ∃ k, k < 19 ∧ r = nI k) := by
  obtain ⟨q, b1, b2, b3, b4, b5, b6, b7⟩ := tk
  obtain ⟨a1, a2, a3, a4, a5, a6⟩ := q
  have none : (∀ k, k < 19 → ¬ IsW I M (wz k)) → r = -1 → (∀ k, k < 19 → (r = nI k ↔ IsW I M (wz k))) ∧ (r = -1 ∨ ∃ k, k < 19 ∧ r = nI k) := by
    intro hn hr
    refine ⟨fun k hk => ⟨fun q => ?_, fun q => absurd q (hn k hk)⟩, Or.inl hr⟩
    rw [hr] at q
    have := congrArg Int32.toInt q
    rw [nI_toInt (by omega), show (-1 : Int32).toInt = -1 from by decide] at this
    omega
  have dd : (J 10).toInt = (I 3).toInt - (I 2).toInt := by
    rw [b5, ← a2, ← b1]
    exact dif32 a3 b3
  unfold fX12_knownWord at h
  rcases ifr h with ⟨c, h⟩ | ⟨c, h⟩
  · have h4 : I 4 = 1 := b2.trans c
    rcases ifr h with ⟨d, h⟩ | ⟨d, h⟩
    · have d := (le32 (y := 7) dd (by decide)).mp d
      rcases kw_l (b7 h4) h4 b3 b4 d N 0 r (Nat.zero_le _) h (fun k hk => absurd hk (Nat.not_lt_zero k)) with ⟨k, hk, er, hw⟩ | ⟨er, hn⟩
      · refine ⟨fun k' hk' => ⟨fun q => ?_, fun q => ?_⟩, Or.inr ⟨k, hk, er⟩⟩
        · have e : k = k' := (nI_eq (by omega) (by omega)).mp (er.symm.trans q)
          rw [← e]; exact hw
        · rw [er, IsW.uniq hk hk' hw q]
      · exact none hn er
    · have d : ¬ _ := fun z => d ((le32 (y := 7) dd (by decide)).mpr z)
      refine none (fun k hk q => ?_) (Option.some.inj h).symm
      have := q.2.1
      have hz := zl_L (wz k) (wz_lt k hk)
      omega
  · exact none (fun k hk q => c (b2.symm.trans q.1)) (Option.some.inj h).symm
theorem zN_wz : ∀ k, k < 9 → zN (nI k) = wz k := by decide +kernel
theorem nmd_l {N : Nat} {I : Nat → Int32} {M : Nat → Nat → Int32} {n : Nat} (hn : n ≤ 9) (h0 : 0 ≤ (I 2).toInt) (h1 : (I 2).toInt ≤ (I 3).toInt) (h6 : (I 3).toInt ≤ 600) : ∀ (fu y : Nat) (r : Int32), y ≤ n → fX9_namedOf_L2 N I M (nI n) fu (nI y) = some r → (∀ k, k < y → ¬ IsW I M (wz k)) → (∃ k, k < n ∧ r = nI k ∧ IsW I M (wz k)) ∨ (r = -1 ∧ ∀ k, k < n → ¬ IsW I M (wz k)) := by
  intro fu
  induction fu with
  | zero => intro y r hy h; cases (show none = some r from h)
  | succ fu ih =>
    intro y r hy h hm
    rw [fX9_namedOf_L2.eq_2] at h
    rcases ifr h with ⟨c, h⟩ | ⟨c, h⟩
    · have c := (nI_leI (by omega) (by omega)).mp c
      exact Or.inr ⟨(Option.some.inj h).symm, fun k hk => hm k (by omega)⟩
    · have c : ¬ _ := fun z => c ((nI_leI (by omega) (by omega)).mpr z)
      have hy2 : y < n := by omega
      obtain ⟨r1, e1, h⟩ := wb_b h
      rw [zN_wz y (by omega)] at e1
      rcases isw (wz_lt y (by omega)) h0 h1 h6 e1 with ⟨b1, b2⟩ | ⟨b1, b2⟩
      · have h := wb_f (by rw [b1]; decide) h
        exact Or.inl ⟨y, hy2, (Option.some.inj h).symm, b2⟩
      · have h := wb_t b1 h
        obtain ⟨v, ev, h⟩ := wb_v h
        rw [ev, nI_1] at h
        refine ih (y + 1) r (by omega) h (fun k hk => ?_)
        by_cases hk2 : k < y
        · exact hm k hk2
        · have ek : k = y := by omega
          subst ek
          exact b2

/-! arguments -/
def wI (x a b : Int32) : Int32 := if x < a then 0 else if b < x then 0 else 1
theorem wn11 {N : Nat} {x a b : Int32} : fX11_within N x a b = some (wI x a b) := by
  unfold fX11_within wI
  by_cases h : x < a
  · rw [if_pos h, if_pos h]
  · rw [if_neg h, if_neg h]
    by_cases h2 : b < x
    · rw [if_pos h2, if_pos h2]
    · rw [if_neg h2, if_neg h2]
theorem wn12 {N : Nat} {x a b : Int32} : fX12_within N x a b = some (wI x a b) := wn11 (N := N)
theorem wI_c (x a b : Int32) : (wI x a b = 1 ∧ a.toInt ≤ x.toInt ∧ x.toInt ≤ b.toInt) ∨ (wI x a b = 0 ∧ ¬ (a.toInt ≤ x.toInt ∧ x.toInt ≤ b.toInt)) := by
  unfold wI
  by_cases h : x < a
  · rw [if_pos h]
    have := (lt32 rfl rfl).mp h
    exact Or.inr ⟨rfl, by omega⟩
  · rw [if_neg h]
    have h : ¬ _ := fun z => h ((lt32 rfl rfl).mpr z)
    by_cases h2 : b < x
    · rw [if_pos h2]
      have := (lt32 rfl rfl).mp h2
      exact Or.inr ⟨rfl, by omega⟩
    · rw [if_neg h2]
      have h2 : ¬ _ := fun z => h2 ((lt32 rfl rfl).mpr z)
      exact Or.inl ⟨rfl, by omega, by omega⟩
theorem rt12 {N : Nat} {J : Nat → Int32} {L : Int64} {K : Nat → Nat → Int32} {x c : Int32} {S : Int32 × (Nat → Int32) × Int64 × (Nat → Nat → Int32)} (j0 : J 0 = 0) (hc : ¬ c = 0) (h : fX12_right N J L K x c = some S) : (¬ x = 0 ∧ S = (1, J, L, K)) ∨ (x = 0 ∧ S = (0, upd J 0 c, L, K)) := by
  unfold fX12_right at h
  have h := wb_t j0 h
  rcases ifr h with ⟨d, h⟩ | ⟨d, h⟩
  · right
    obtain ⟨J1, e1, h⟩ := wb_v h
    have j1 : J1 0 = c := by rw [e1]; rfl
    have h := Option.some.inj (wb_f (by rw [j1]; exact hc) h)
    subst h
    exact ⟨d, by rw [e1]⟩
  · exact Or.inl ⟨d, (Option.some.inj (wb_t j0 h)).symm⟩
def BW (b w : Int32) : Prop := (0 ≤ b.toInt ∧ b.toInt ≤ 5) ∧ 0 ≤ w.toInt ∧ w.toInt ≤ 19
theorem iw12 {N : Nat} {J : Nat → Int32} {L : Int64} {K : Nat → Nat → Int32} {b w : Int32} {S : Int32 × (Nat → Int32) × Int64 × (Nat → Nat → Int32)} (h : fX12_isWheel N J L K b w = some S) : (BW b w ∧ S = (1, upd J 0 0, L, K)) ∨ (¬ BW b w ∧ S = (0, upd (upd J 0 0) 0 1, L, K)) := by
  unfold fX12_isWheel at h
  obtain ⟨J1, e1, h⟩ := wb_v h
  have j1 : J1 0 = 0 := by rw [e1]; rfl
  unfold BW
  have bad : ¬ ((0 ≤ b.toInt ∧ b.toInt ≤ 5) ∧ 0 ≤ w.toInt ∧ w.toInt ≤ 19) → ((fX12_right N J1 L K (0 : Int32) (1 : Int32)).bind fun r2 => if r2.1 &&& 1 = r2.1 then some (r2.1, r2.2.1, r2.2.2.1, r2.2.2.2) else none) = some S → ((0 ≤ b.toInt ∧ b.toInt ≤ 5) ∧ 0 ≤ w.toInt ∧ w.toInt ≤ 19) ∧ S = (1, upd J 0 0, L, K) ∨ (¬ ((0 ≤ b.toInt ∧ b.toInt ≤ 5) ∧ 0 ≤ w.toInt ∧ w.toInt ≤ 19)) ∧ S = (0, upd (upd J 0 0) 0 1, L, K) := by
    intro hn h
    right
    refine ⟨hn, ?_⟩
    obtain ⟨r, e, h⟩ := wb_b h
    have h := Option.some.inj (wb_y h).2
    subst h
    rcases rt12 j1 (by decide) e with ⟨q, -⟩ | ⟨-, q⟩
    · exact absurd rfl q
    · rw [q, e1]
  rcases ifr h with ⟨c, h⟩ | ⟨c, h⟩
  · have c := (lt32 (y := 0) rfl (by decide)).mp c
    exact bad (by omega) h
  · have c : ¬ _ := fun z => c ((lt32 (y := 0) rfl (by decide)).mpr z)
    rcases ifr h with ⟨c2, h⟩ | ⟨c2, h⟩
    · have c2 := (le32 (x := 6) (by decide) rfl).mp c2
      exact bad (by omega) h
    · have c2 : ¬ _ := fun z => c2 ((le32 (x := 6) (by decide) rfl).mpr z)
      rcases ifr h with ⟨c3, h⟩ | ⟨c3, h⟩
      · have c3 := (lt32 (y := 0) rfl (by decide)).mp c3
        exact bad (by omega) h
      · have c3 : ¬ _ := fun z => c3 ((lt32 (y := 0) rfl (by decide)).mpr z)
        rcases ifr h with ⟨c4, h⟩ | ⟨c4, h⟩
        · have c4 := (le32 (x := 20) (by decide) rfl).mp c4
          exact bad (by omega) h
        · have c4 : ¬ _ := fun z => c4 ((le32 (x := 20) (by decide) rfl).mpr z)
          left
          refine ⟨⟨⟨by omega, by omega⟩, by omega, by omega⟩, ?_⟩
          obtain ⟨r, e, h⟩ := wb_b h
          have h := Option.some.inj (wb_y h).2
          subst h
          rcases rt12 j1 (by decide) e with ⟨-, q⟩ | ⟨q, -⟩
          · rw [q, e1]
          · exact absurd q (by decide)
theorem need0 {N : Nat} : fX11_need N 0 = some (.inl 1) := rfl
theorem need1 {N : Nat} : fX11_need N 1 = some (.inr ()) := rfl
theorem alow0 {N : Nat} : fX11_allow N 0 = some (.inl 2) := rfl
theorem alow1 {N : Nat} : fX11_allow N 1 = some (.inr ()) := rfl
theorem isB {N : Nat} {x r : Int32} (h : fX11_isBook N x = some r) : r = wI x 0 5 := by
  unfold fX11_isBook at h
  rw [wn11] at h
  exact (Option.some.inj (wb_y h).2).symm
theorem nb11 {N : Nat} {b w : Int32} {r : Nat ⊕ Int32} (h : fX11_numberOf N b w = some r) : (BW b w ∧ r = .inr ((20 : Int32) * b + w)) ∨ (¬ BW b w ∧ r = .inl 1) := by
  unfold fX11_numberOf fX11_numberOf_J21 at h
  obtain ⟨r2, e2, h⟩ := wb_b h
  have e2 := isB e2
  unfold BW
  have n0 : (0 : Int32).toInt = 0 := by decide
  have n5 : (5 : Int32).toInt = 5 := by decide
  have n19 : (19 : Int32).toInt = 19 := by decide
  have c1 := wI_c b 0 5
  have c2 := wI_c w 0 19
  rw [n0, n5] at c1
  rw [n0, n19] at c2
  rcases ifr h with ⟨c, h⟩ | ⟨c, h⟩
  · right
    rw [need0] at h
    refine ⟨fun z => ?_, (Option.some.inj h).symm⟩
    rcases c1 with ⟨q, -⟩ | ⟨-, q⟩
    · rw [e2, q] at c; exact absurd c (by decide)
    · exact q z.1
  · rw [wn11] at h
    rcases ifr h with ⟨d, h⟩ | ⟨d, h⟩
    · right
      rw [need0] at h
      refine ⟨fun z => ?_, (Option.some.inj h).symm⟩
      rcases c2 with ⟨q, -⟩ | ⟨-, q⟩
      · rw [q] at d; exact absurd d (by decide)
      · exact q z.2
    · left
      rw [need1] at h
      have h := Option.some.inj h
      refine ⟨⟨?_, ?_⟩, h.symm⟩
      · rcases c1 with ⟨-, q⟩ | ⟨q, -⟩
        · exact q
        · exact absurd (e2.trans q) c
      · rcases c2 with ⟨-, q⟩ | ⟨q, -⟩
        · exact q
        · exact absurd q d
theorem bg12 {N : Nat} {J : Nat → Int32} {L : Int64} {K : Nat → Nat → Int32} {n : Int32} {S : Int32 × (Nat → Int32) × Int64 × (Nat → Nat → Int32)} (j0 : J 0 = 0) (h : fX12_begins N J L K n = some S) : ((0 ≤ n.toInt ∧ n.toInt ≤ (J 3).toInt) ∧ ∃ r7, fX12_steps N (upd (upd (upd (upd (upd J 3 0) 5 (-1)) 4 0) 6 n) 7 0) L K = some r7 ∧ S = (1, r7.1, r7.2.1, r7.2.2)) ∨ (¬ (0 ≤ n.toInt ∧ n.toInt ≤ (J 3).toInt) ∧ S = (0, upd J 0 (if J 12 = 0 then 1 else 2), L, K)) := by
  have j37 : ∀ (z c : Int32), ¬ c = 0 → fX12_begins_J37 N n J L K c z = some S → (¬ z = 0 ∧ ∃ r7, fX12_steps N (upd (upd (upd (upd (upd J 3 0) 5 (-1)) 4 0) 6 n) 7 0) L K = some r7 ∧ S = (1, r7.1, r7.2.1, r7.2.2)) ∨ (z = 0 ∧ S = (0, upd J 0 c, L, K)) := by
    intro z c hc h
    unfold fX12_begins_J37 at h
    obtain ⟨r1, e1, h⟩ := wb_b h
    rcases rt12 j0 hc e1 with ⟨q, e⟩ | ⟨q, e⟩
    · left
      refine ⟨q, ?_⟩
      subst e
      have h := wb_f (c := (1 : Int32) = 0) (by decide) h
      obtain ⟨J2, e2, h⟩ := wb_v h
      obtain ⟨J3, e3, h⟩ := wb_v h
      obtain ⟨J4, e4, h⟩ := wb_v h
      obtain ⟨J5, e5, h⟩ := wb_v h
      obtain ⟨J6, e6, h⟩ := wb_v h
      rw [e5, e4, e3, e2] at e6
      obtain ⟨r7, e7, h⟩ := wb_b h
      rw [e6] at e7
      exact ⟨r7, e7, (Option.some.inj h).symm⟩
    · right
      subst e
      exact ⟨q, (Option.some.inj (wb_t (c := (0 : Int32) = 0) rfl h)).symm⟩
  have j18 : ∀ z : Int32, fX12_begins_J18 N n J L K z = some S → (¬ z = 0 ∧ ∃ r7, fX12_steps N (upd (upd (upd (upd (upd J 3 0) 5 (-1)) 4 0) 6 n) 7 0) L K = some r7 ∧ S = (1, r7.1, r7.2.1, r7.2.2)) ∨ (z = 0 ∧ S = (0, upd J 0 (if J 12 = 0 then 1 else 2), L, K)) := by
    intro z h
    unfold fX12_begins_J18 fX12_begins_J36 at h
    have h := wb_t j0 h
    rcases ifr h with ⟨c, h⟩ | ⟨c, h⟩
    · rw [if_pos c]; exact j37 z 1 (by decide) h
    · rw [if_neg c]; exact j37 z 2 (by decide) h
  unfold fX12_begins fX12_begins_J17 at h
  rcases ifr h with ⟨c, h⟩ | ⟨c, h⟩
  · have c := (lt32 (y := 0) rfl (by decide)).mp c
    rcases j18 0 h with ⟨q, -⟩ | ⟨-, q⟩
    · exact absurd rfl q
    · exact Or.inr ⟨by omega, q⟩
  · have c : ¬ _ := fun z => c ((lt32 (y := 0) rfl (by decide)).mpr z)
    rcases ifr h with ⟨d, h⟩ | ⟨d, h⟩
    · have d := (lt32 rfl rfl).mp d
      rcases j18 0 h with ⟨q, -⟩ | ⟨-, q⟩
      · exact absurd rfl q
      · exact Or.inr ⟨by omega, q⟩
    · have d : ¬ _ := fun z => d ((lt32 rfl rfl).mpr z)
      rcases j18 1 h with ⟨-, q⟩ | ⟨q, -⟩
      · exact Or.inl ⟨⟨by omega, by omega⟩, q⟩
      · exact absurd q (by decide)
theorem bg9 {N : Nat} {I : Nat → Int32} {M : Nat → Nat → Int32} {n : Int32} {R : (Nat → Int32) × (Nat → Nat → Int32)} (hn : n.toInt ≤ (I 0).toInt) (h : fX9_begin N I M n = some R) : ∃ r6, fX9_step N (upd (upd (upd (upd (upd I 1 n) 0 0) 3 0) 7 0) 8 (-1)) M = some r6 ∧ R = (r6.1, r6.2) := by
  unfold fX9_begin at h
  rw [if_neg (fun z => by have := (lt32 rfl rfl).mp z; omega : ¬ I 0 < n)] at h
  obtain ⟨I1, e1, h⟩ := wb_v h
  obtain ⟨I2, e2, h⟩ := wb_v h
  obtain ⟨I3, e3, h⟩ := wb_v h
  obtain ⟨I4, e4, h⟩ := wb_v h
  obtain ⟨I5, e5, h⟩ := wb_v h
  rw [e4, e3, e2, e1] at e5
  obtain ⟨r6, e6, h⟩ := wb_b h
  rw [e5] at e6
  exact ⟨r6, e6, (Option.some.inj h).symm⟩
theorem TK.cg {I I' J : Nat → Int32} {L : Int64} {M M' K : Nat → Nat → Int32} (h : TK I J L M K) (hI : ∀ k, k < 9 → I' k = I k) (hM : M' 0 = M 0) : TK I' J L M' K := by
  unfold TK TQ TW at h ⊢
  rw [hI 1 (by decide), hI 2 (by decide), hI 3 (by decide), hI 4 (by decide), hI 5 (by decide), hM]
  exact h
theorem wbi_lt {α : Type} {f g : Nat → α} {n k : Nat} (h : k < n) : wb_in f 0 n g k = g k := by
  unfold wb_in
  rw [if_pos ⟨Nat.zero_le _, by omega⟩]
  rfl
theorem wbi_ge {α : Type} {f g : Nat → α} {o n k : Nat} (h : k < o ∨ o + n ≤ k) : wb_in f o n g k = f k := by
  unfold wb_in
  rw [if_neg (by omega)]
theorem wbi_in {α : Type} {f g : Nat → α} {o n k : Nat} (h : o ≤ k) (h2 : k < o + n) : wb_in f o n g k = g (k - o) := by
  unfold wb_in
  rw [if_pos ⟨h, h2⟩]

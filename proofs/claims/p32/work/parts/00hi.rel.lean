/-! arguments -/
def wI (x a b : Int32) : Int32 := if x < a then 0 else if b < x then 0 else 1
theorem wn11 {N : Nat} {x a b : Int32} : fX11_within N x a b = some (wI x a b) := by
  unfold fX11_within wI
  by_cases h : x < a
  · rw [if_pos h, if_pos h]
  · rw [if_neg h, if_neg h]
    by_cases h2 : b < x
    · rw [if_pos h2, if_pos h2]
    · rw [if_neg h2, if_neg h2]
theorem wI_c (x a b : Int32) : (wI x a b = 1 ∧ a.toInt ≤ x.toInt ∧ x.toInt ≤ b.toInt) ∨ (wI x a b = 0 ∧ ¬ (a.toInt ≤ x.toInt ∧ x.toInt ≤ b.toInt)) := by
  unfold wI
  by_cases h : x < a
  · rw [if_pos h]
    have := (lt32 rfl rfl).mp h
    exact Or.inr ⟨rfl, by omega⟩
  · rw [if_neg h]
    have h : ¬ _ := fun z => h ((lt32 rfl rfl).mpr z)
    by_cases h2 : b < x
    · rw [if_pos h2]
      have := (lt32 rfl rfl).mp h2
      exact Or.inr ⟨rfl, by omega⟩
    · rw [if_neg h2]
      have h2 : ¬ _ := fun z => h2 ((lt32 rfl rfl).mpr z)
      exact Or.inl ⟨rfl, by omega, by omega⟩
theorem rt12 {N : Nat} {J : Nat → Int32} {L : Int64} {K : Nat → Nat → Int32} {x c : Int32} {S : Int32 × (Nat → Int32) × Int64 × (Nat → Nat → Int32)} (j0 : J 0 = 0) (hc : ¬ c = 0) (h : fX12_right N J L K x c = some S) : (¬ x = 0 ∧ S = (1, J, L, K)) ∨ (x = 0 ∧ S = (0, upd J 0 c, L, K)) := by
  unfold fX12_right at h
  have h := wb_t j0 h
  rcases ifr h with ⟨d, h⟩ | ⟨d, h⟩
  · right
    obtain ⟨J1, e1, h⟩ := wb_v h
    have j1 : J1 0 = c := by rw [e1]; rfl
    have h := Option.some.inj (wb_f (by rw [j1]; exact hc) h)
    subst h
    exact ⟨d, by rw [e1]⟩
  · exact Or.inl ⟨d, (Option.some.inj (wb_t j0 h)).symm⟩
def BW (b w : Int32) : Prop := (0 ≤ b.toInt ∧ b.toInt ≤ 5) ∧ 0 ≤ w.toInt ∧ w.toInt ≤ 19
theorem iw12 {N : Nat} {J : Nat → Int32} {L : Int64} {K : Nat → Nat → Int32} {b w : Int32} {S : Int32 × (Nat → Int32) × Int64 × (Nat → Nat → Int32)} (h : fX12_isWheel N J L K b w = some S) : (BW b w ∧ S = (1, upd J 0 0, L, K)) ∨ (¬ BW b w ∧ S = (0, upd (upd J 0 0) 0 1, L, K)) := by
  unfold fX12_isWheel at h
  obtain ⟨J1, e1, h⟩ := wb_v h
  have j1 : J1 0 = 0 := by rw [e1]; rfl
  unfold BW
  have bad : ¬ ((0 ≤ b.toInt ∧ b.toInt ≤ 5) ∧ 0 ≤ w.toInt ∧ w.toInt ≤ 19) → ((fX12_right N J1 L K (0 : Int32) (1 : Int32)).bind fun r2 => if r2.1 &&& 1 = r2.1 then some (r2.1, r2.2.1, r2.2.2.1, r2.2.2.2) else none) = some S → ((0 ≤ b.toInt ∧ b.toInt ≤ 5) ∧ 0 ≤ w.toInt ∧ w.toInt ≤ 19) ∧ S = (1, upd J 0 0, L, K) ∨ (¬ ((0 ≤ b.toInt ∧ b.toInt ≤ 5) ∧ 0 ≤ w.toInt ∧ w.toInt ≤ 19)) ∧ S = (0, upd (upd J 0 0) 0 1, L, K) := by
    intro hn h
    right
    refine ⟨hn, ?_⟩
    obtain ⟨r, e, h⟩ := wb_b h
    have h := Option.some.inj (wb_y h).2
    subst h
    rcases rt12 j1 (by decide) e with ⟨q, -⟩ | ⟨-, q⟩
    · exact absurd rfl q
    · rw [q, e1]
  rcases ifr h with ⟨c, h⟩ | ⟨c, h⟩
  · have c := (lt32 (y := 0) rfl (by decide)).mp c
    exact bad (by omega) h
  · have c : ¬ _ := fun z => c ((lt32 (y := 0) rfl (by decide)).mpr z)
    rcases ifr h with ⟨c2, h⟩ | ⟨c2, h⟩
    · have c2 := (le32 (x := 6) (by decide) rfl).mp c2
      exact bad (by omega) h
    · have c2 : ¬ _ := fun z => c2 ((le32 (x := 6) (by decide) rfl).mpr z)
      rcases ifr h with ⟨c3, h⟩ | ⟨c3, h⟩
      · have c3 := (lt32 (y := 0) rfl (by decide)).mp c3
        exact bad (by omega) h
      · have c3 : ¬ _ := fun z => c3 ((lt32 (y := 0) rfl (by decide)).mpr z)
        rcases ifr h with ⟨c4, h⟩ | ⟨c4, h⟩
        · have c4 := (le32 (x := 20) (by decide) rfl).mp c4
          exact bad (by omega) h
        · have c4 : ¬ _ := fun z => c4 ((le32 (x := 20) (by decide) rfl).mpr z)
          left
          refine ⟨⟨⟨by omega, by omega⟩, by omega, by omega⟩, ?_⟩
          obtain ⟨r, e, h⟩ := wb_b h
          have h := Option.some.inj (wb_y h).2
          subst h
          rcases rt12 j1 (by decide) e with ⟨-, q⟩ | ⟨q, -⟩
          · rw [q, e1]
          · exact absurd q (by decide)
theorem need0 {N : Nat} : fX11_need N 0 = some (.inl 1) := rfl
theorem need1 {N : Nat} : fX11_need N 1 = some (.inr ()) := rfl
theorem alow0 {N : Nat} : fX11_allow N 0 = some (.inl 2) := rfl
theorem alow1 {N : Nat} : fX11_allow N 1 = some (.inr ()) := rfl
theorem isB {N : Nat} {x r : Int32} (h : fX11_isBook N x = some r) : r = wI x 0 5 := by
  unfold fX11_isBook at h
  rw [wn11] at h
  exact (Option.some.inj (wb_y h).2).symm
theorem nb11 {N : Nat} {b w : Int32} {r : Nat ⊕ Int32} (h : fX11_numberOf N b w = some r) : (BW b w ∧ r = .inr ((20 : Int32) * b + w)) ∨ (¬ BW b w ∧ r = .inl 1) := by
  unfold fX11_numberOf fX11_numberOf_J21 at h
  obtain ⟨r2, e2, h⟩ := wb_b h
  have e2 := isB e2
  unfold BW
  have n0 : (0 : Int32).toInt = 0 := by decide
  have n5 : (5 : Int32).toInt = 5 := by decide
  have n19 : (19 : Int32).toInt = 19 := by decide
  have c1 := wI_c b 0 5
  have c2 := wI_c w 0 19
  rw [n0, n5] at c1
  rw [n0, n19] at c2
  rcases ifr h with ⟨c, h⟩ | ⟨c, h⟩
  · right
    rw [need0] at h
    refine ⟨fun z => ?_, (Option.some.inj h).symm⟩
    rcases c1 with ⟨q, -⟩ | ⟨-, q⟩
    · rw [e2, q] at c; exact absurd c (by decide)
    · exact q z.1
  · rw [wn11] at h
    rcases ifr h with ⟨d, h⟩ | ⟨d, h⟩
    · right
      rw [need0] at h
      refine ⟨fun z => ?_, (Option.some.inj h).symm⟩
      rcases c2 with ⟨q, -⟩ | ⟨-, q⟩
      · rw [q] at d; exact absurd d (by decide)
      · exact q z.2
    · left
      rw [need1] at h
      have h := Option.some.inj h
      refine ⟨⟨?_, ?_⟩, h.symm⟩
      · rcases c1 with ⟨-, q⟩ | ⟨q, -⟩
        · exact q
        · exact absurd (e2.trans q) c
      · rcases c2 with ⟨-, q⟩ | ⟨q, -⟩
        · exact q
        · exact absurd q d
theorem bg12 {N : Nat} {J : Nat → Int32} {L : Int64} {K : Nat → Nat → Int32} {n : Int32} {S : Int32 × (Nat → Int32) × Int64 × (Nat → Nat → Int32)} (j0 : J 0 = 0) (h : fX12_begins N J L K n = some S) : ((0 ≤ n.toInt ∧ n.toInt ≤ (J 3).toInt) ∧ ∃ r7, fX12_steps N (upd (upd (upd (upd (upd J 3 0) 5 (-1)) 4 0) 6 n) 7 0) L K = some r7 ∧ S = (1, r7.1, r7.2.1, r7.2.2)) ∨ (¬ (0 ≤ n.toInt ∧ n.toInt ≤ (J 3).toInt) ∧ S = (0, upd J 0 (if J 12 = 0 then 1 else 2), L, K)) := by
  have j37 : ∀ (z c : Int32), ¬ c = 0 → fX12_begins_J37 N n J L K c z = some S → (¬ z = 0 ∧ ∃ r7, fX12_steps N (upd (upd (upd (upd (upd J 3 0) 5 (-1)) 4 0) 6 n) 7 0) L K = some r7 ∧ S = (1, r7.1, r7.2.1, r7.2.2)) ∨ (z = 0 ∧ S = (0, upd J 0 c, L, K)) := by
    intro z c hc h
    unfold fX12_begins_J37 at h
    obtain ⟨r1, e1, h⟩ := wb_b h
    rcases rt12 j0 hc e1 with ⟨q, e⟩ | ⟨q, e⟩
    · left
      refine ⟨q, ?_⟩
      subst e
      have h := wb_f (c := (1 : Int32) = 0) (by decide) h
      obtain ⟨J2, e2, h⟩ := wb_v h
      obtain ⟨J3, e3, h⟩ := wb_v h
      obtain ⟨J4, e4, h⟩ := wb_v h
      obtain ⟨J5, e5, h⟩ := wb_v h
      obtain ⟨J6, e6, h⟩ := wb_v h
      rw [e5, e4, e3, e2] at e6
      obtain ⟨r7, e7, h⟩ := wb_b h
      rw [e6] at e7
      exact ⟨r7, e7, (Option.some.inj h).symm⟩
    · right
      subst e
      exact ⟨q, (Option.some.inj (wb_t (c := (0 : Int32) = 0) rfl h)).symm⟩
  have j18 : ∀ z : Int32, fX12_begins_J18 N n J L K z = some S → (¬ z = 0 ∧ ∃ r7, fX12_steps N (upd (upd (upd (upd (upd J 3 0) 5 (-1)) 4 0) 6 n) 7 0) L K = some r7 ∧ S = (1, r7.1, r7.2.1, r7.2.2)) ∨ (z = 0 ∧ S = (0, upd J 0 (if J 12 = 0 then 1 else 2), L, K)) := by
    intro z h
    unfold fX12_begins_J18 fX12_begins_J36 at h
    have h := wb_t j0 h
    rcases ifr h with ⟨c, h⟩ | ⟨c, h⟩
    · rw [if_pos c]; exact j37 z 1 (by decide) h
    · rw [if_neg c]; exact j37 z 2 (by decide) h
  unfold fX12_begins fX12_begins_J17 at h
  rcases ifr h with ⟨c, h⟩ | ⟨c, h⟩
  · have c := (lt32 (y := 0) rfl (by decide)).mp c
    rcases j18 0 h with ⟨q, -⟩ | ⟨-, q⟩
    · exact absurd rfl q
    · exact Or.inr ⟨by omega, q⟩
  · have c : ¬ _ := fun z => c ((lt32 (y := 0) rfl (by decide)).mpr z)
    rcases ifr h with ⟨d, h⟩ | ⟨d, h⟩
    · have d := (lt32 rfl rfl).mp d
      rcases j18 0 h with ⟨q, -⟩ | ⟨-, q⟩
      · exact absurd rfl q
      · exact Or.inr ⟨by omega, q⟩
    · have d : ¬ _ := fun z => d ((lt32 rfl rfl).mpr z)
      rcases j18 1 h with ⟨-, q⟩ | ⟨q, -⟩
      · exact Or.inl ⟨⟨by omega, by omega⟩, q⟩
      · exact absurd q (by decide)
theorem bg9 {N : Nat} {I : Nat → Int32} {M : Nat → Nat → Int32} {n : Int32} {R : (Nat → Int32) × (Nat → Nat → Int32)} (hn : n.toInt ≤ (I 0).toInt) (h : fX9_begin N I M n = some R) : ∃ r6, fX9_step N (upd (upd (upd (upd (upd I 1 n) 0 0) 3 0) 7 0) 8 (-1)) M = some r6 ∧ R = (r6.1, r6.2) := by
  unfold fX9_begin at h
  rw [if_neg (fun z => by have := (lt32 rfl rfl).mp z; omega : ¬ I 0 < n)] at h
  obtain ⟨I1, e1, h⟩ := wb_v h
  obtain ⟨I2, e2, h⟩ := wb_v h
  obtain ⟨I3, e3, h⟩ := wb_v h
  obtain ⟨I4, e4, h⟩ := wb_v h
  obtain ⟨I5, e5, h⟩ := wb_v h
  rw [e4, e3, e2, e1] at e5
  obtain ⟨r6, e6, h⟩ := wb_b h
  rw [e5] at e6
  exact ⟨r6, e6, (Option.some.inj h).symm⟩
theorem TK.cg {I I' J : Nat → Int32} {L : Int64} {M M' K : Nat → Nat → Int32} (h : TK I J L M K) (hI : ∀ k, k < 9 → I' k = I k) (hM : M' 0 = M 0) : TK I' J L M' K := by
  unfold TK TQ TW at h ⊢
  rw [hI 1 (by decide), hI 2 (by decide), hI 3 (by decide), hI 4 (by decide), hI 5 (by decide), hM]
  exact h
theorem wbi_lt {α : Type} {f g : Nat → α} {n k : Nat} (h : k < n) : wb_in f 0 n g k = g k := by
  unfold wb_in
  rw [if_pos ⟨Nat.zero_le _, by omega⟩]
  rfl
theorem wbi_ge {α : Type} {f g : Nat → α} {o n k : Nat} (h : k < o ∨ o + n ≤ k) : wb_in f o n g k = f k := by
  unfold wb_in
  rw [if_neg (by omega)]
theorem wbi_in {α : Type} {f g : Nat → α} {o n k : Nat} (h : o ≤ k) (h2 : k < o + n) : wb_in f o n g k = g (k - o) := by
  unfold wb_in
  rw [if_pos ⟨h, h2⟩]
theorem xbi {α β : Type} {x : Option (Nat ⊕ α)} {f : α → Option (Nat ⊕ β)} {r : Nat ⊕ β} (h : wb_xb x f = some r) : (∃ k, x = some (.inl k) ∧ r = .inl k) ∨ ∃ a, x = some (.inr a) ∧ f a = some r := by
  match x, h with
  | none, h => cases h
  | some (.inl k), h => exact Or.inl ⟨k, rfl, (Option.some.inj h).symm⟩
  | some (.inr a), h => exact Or.inr ⟨a, rfl, h⟩
theorem oki {α : Type} {x : Option α} {r : Nat ⊕ α} (h : wb_ok x = some r) : ∃ R, r = .inr R ∧ x = some R := by
  cases x with
  | none => cases h
  | some a => exact ⟨a, (Option.some.inj h).symm, rfl⟩
/-- the tape of both -/
def TR (I J : Nat → Int32) (M K : Nat → Nat → Int32) : Prop := I 0 = J 3 ∧ 0 ≤ (I 0).toInt ∧ (I 0).toInt ≤ 600 ∧ ∀ j : Nat, (j : Int) < (I 0).toInt → BR (M 0 j) (K 8 j)
/-- the ENTRIES of both -/
def EnR (M K : Nat → Nat → Int32) : Prop := ∀ j : Nat, j < 2640 → M 13 j = K 7 j
theorem TK.cgK {I J : Nat → Int32} {L : Int64} {M K K' : Nat → Nat → Int32} (h : TK I J L M K) (hK : K' 8 = K 8) : TK I J L M K' := by
  unfold TK TQ at h ⊢
  rw [hK]
  exact h
/-- the beginning of both -/
theorem beg {N N2 : Nat} {I J : Nat → Int32} {L : Int64} {M K : Nat → Nat → Int32} {n : Int32} {R : (Nat → Int32) × (Nat → Nat → Int32)} {s7 : (Nat → Int32) × Int64 × (Nat → Nat → Int32)} (tr : TR I J M K) (n0 : 0 ≤ n.toInt) (n1 : n.toInt ≤ (J 3).toInt) (h : fX9_begin N I M n = some R) (g : fX12_steps N2 (upd (upd (upd (upd (upd J 3 0) 5 (-1)) 4 0) 6 n) 7 0) L K = some s7) : TK R.1 s7.1 s7.2.1 M K ∧ s7.1 4 = 0 ∧ R.2 = M ∧ s7.2.2 = K ∧ PsT R.1 ∧ R.1 7 = 0 ∧ R.1 0 = 0 ∧ s7.1 0 = J 0 ∧ s7.1 3 = 0 := by
  obtain ⟨a1, a2, a3, a4⟩ := tr
  obtain ⟨r6, e6, eR⟩ := bg9 (by rw [a1]; exact n1) h
  subst eR
  have q : TQ (upd (upd (upd (upd (upd I 1 n) 0 0) 3 0) 7 0) 8 (-1)) (upd (upd (upd (upd (upd J 3 0) 5 (-1)) 4 0) 6 n) 7 0) M K := by
    refine ⟨rfl, rfl, ?_, ?_, ?_, ?_⟩
    · show 0 ≤ (0 : Int32).toInt
      decide
    · show (0 : Int32).toInt ≤ n.toInt
      rw [show (0 : Int32).toInt = 0 from by decide]; exact n0
    · show n.toInt ≤ 600
      rw [a1] at a3; omega
    · show ∀ j : Nat, (j : Int) < n.toInt → BR (M 0 j) (K 8 j)
      intro j hj
      exact a4 j (by rw [a1]; omega)
  obtain ⟨t1, t2, t3, t4, t5, t6, t7⟩ := st_all e6 g q rfl
  exact ⟨t1, t2, t3, t4, t6, t7, (fr_fX9_step e6).1 0 (by decide), (fr_fX12_steps g).1 0 (by decide), (fr_fX12_steps g).1 3 (by decide)⟩
theorem whl {N N2 : Nat} {I J : Nat → Int32} {L : Int64} {M K : Nat → Nat → Int32} {b w n : Int32} {r : Nat ⊕ (Int32 × (Nat → Int32) × (Nat → Nat → Int32))} {S : Int32 × (Nat → Int32) × Int64 × (Nat → Nat → Int32)} (hN : 22 < N) (tr : TR I J M K) (er : EnR M K) (h : fX11_wheel N I M b w n = some r) (g : fX12_wheel N2 J L K b w n = some S) :
    (r = .inl 1 ∧ S.2.1 0 = 1 ∧ S.2.1 3 = J 3 ∧ S.2.2.2 = K) ∨ (r = .inl 2 ∧ S.2.1 0 = 2 ∧ S.2.1 3 = J 3 ∧ S.2.2.2 = K) ∨ (∃ R, r = .inr R ∧ S.2.1 0 = 0 ∧ R.1 = S.1 ∧ R.2.1 0 = 0 ∧ S.2.1 3 = 0 ∧ EnR R.2.2 S.2.2.2) := by
  unfold fX11_wheel at h
  unfold fX12_wheel at g
  obtain ⟨s4, f4, g⟩ := wb_b g
  rcases xbi h with ⟨k, e1, hr⟩ | ⟨r1, e1, h⟩
  · rcases nb11 e1 with ⟨-, q⟩ | ⟨hb, q⟩
    · cases q
    · left
      have q := Sum.inl.inj q
      subst q
      rcases iw12 f4 with ⟨hb2, -⟩ | ⟨-, q⟩
      · exact absurd hb2 hb
      · subst q
        have g := Option.some.inj (wb_t (c := (0 : Int32) = 0) rfl g)
        subst g
        exact ⟨hr, rfl, rfl, rfl⟩
  · rcases nb11 e1 with ⟨hb, q⟩ | ⟨-, q⟩
    · right
      have q := Sum.inr.inj q
      subst q
      rcases iw12 f4 with ⟨-, q⟩ | ⟨hb2, -⟩
      · subst q
        have g := wb_f (c := (1 : Int32) = 0) (by decide) g
        obtain ⟨J5, eJ5, g⟩ := wb_v g
        obtain ⟨s6, f6, g⟩ := wb_b g
        rw [wn11] at h
        obtain ⟨r2, e2, h⟩ := wb_v h
        have j50 : J5 0 = 0 := by rw [eJ5]; rfl
        have j53 : J5 3 = J 3 := by rw [eJ5]; rfl
        have j512 : J5 12 = 1 := by rw [eJ5]; rfl
        have ei := tr.1
        have c := wI_c n 0 (I 0)
        rw [show (0 : Int32).toInt = 0 from by decide, ← e2] at c
        rcases bg12 j50 f6 with ⟨⟨n0, n1⟩, s7, f7, es6⟩ | ⟨hn, es6⟩
        · right
          rcases c with ⟨c, -⟩ | ⟨-, c⟩
          · rw [c, alow1] at h
            subst es6
            have g := wb_f (c := (1 : Int32) = 0) (by decide) g
            obtain ⟨R, hR, h⟩ := oki h
            refine ⟨R, hR, ?_⟩
            obtain ⟨r4, e4, h⟩ := wb_b h
            have tr5 : TR I J5 M K := by
              obtain ⟨a1, a2, a3, a4⟩ := tr
              exact ⟨by rw [j53]; exact a1, a2, a3, a4⟩
            obtain ⟨t1, t2, t3, t4, t5, t6, t7, t8, t9⟩ := beg tr5 n0 n1 e4 f7
            rw [j50] at t8
            obtain ⟨I5, eI5, h⟩ := wb_v h
            obtain ⟨M6, eM6, h⟩ := wb_v h
            have m6 : M6 = M := by
              rw [eM6, t3]
              funext k
              by_cases hk : k < 1
              · exact wbi_lt hk
              · exact wbi_ge (Or.inr (by omega))
            rw [m6] at h
            obtain ⟨r7, e7, h⟩ := wb_b h
            have i5 : ∀ k, k < 9 → I5 k = r4.1 k := fun k hk => by rw [eI5]; exact wbi_lt hk
            have e7b := e7
            unfold fX1_readEntries at e7
            rw [wp_fill N 22 _ _ (by decide) hN] at e7
            obtain ⟨fl, efl, e7⟩ := wb_v e7
            obtain ⟨Mf, eMf, e7⟩ := wb_v e7
            obtain ⟨K', gg, g2, k16, kk⟩ := w29 N2 0 s7.1 s7.2.1 s7.2.2 S g (Nat.zero_le _) (fun e he => absurd he (Nat.not_lt_zero e))
            rw [t4] at kk
            have d0 : DR Mf K' := by
              intro e he
              rw [k16 e he, eMf]
              show (if (1 : Nat) = 1 then fl else _) e = -1
              rw [if_pos rfl, efl]
              show (if e < 22 then (-1 : Int32) else _) = -1
              rw [if_pos he]
            obtain ⟨J', L', K2, g3, m1, m2, m3, y0, y3, m4⟩ := rdL N N2 0 (wb_sh I5 13) Mf I5 M s7.1 s7.2.1 K' r7 S e7 g2 ((t1.cg i5 rfl).cgK (kk 8 (by decide))) t2 d0 (by
              unfold PsT at t5 ⊢
              rw [i5 4 (by decide), i5 2 (by decide), i5 3 (by decide)]
              exact t5) (by
              have := (t1.cg i5 (M' := M) rfl).2.2.2.1
              omega) (by omega)
            have y0 : J' 0 = 0 := y0.trans t8
            have y3 : J' 3 = 0 := y3.trans t9
            have mf0 : r7.2.2.1 0 = M 13 := by
              rw [m2, eMf]; rfl
            have tx := fr_fX1_readEntries e7b
            have x0 : r7.2.2.2.1 0 = 0 := (tx.1 0 (by decide)).trans ((i5 0 (by decide)).trans t7)
            obtain ⟨I8, eI8, h⟩ := wb_v h
            obtain ⟨M9, eM9, h⟩ := wb_v h
            have i8 : ∀ k, k < 9 → I8 k = r7.2.2.2.1 k := fun k hk => by rw [eI8]; exact wbi_lt hk
            have m913 : M9 13 = M 13 := by
              rw [eM9, wbi_ge (Or.inr (by decide)), wbi_in (by decide) (by decide)]
              exact mf0
            have m914 : M9 14 = r7.2.2.1 1 := by
              rw [eM9, wbi_ge (Or.inr (by decide)), wbi_in (by decide) (by decide)]
            unfold fX12_wheel_J71 at g3
            obtain ⟨p1, q1, g3⟩ := wb_b g3
            have k7 : K2 7 = K 7 := m3.trans (kk 7 (by decide))
            rcases m4 with ⟨c1, c2, c3, c4⟩ | ⟨c1, c2⟩
            · rw [good1 c2] at q1
              have q1 := Option.some.inj q1
              have g3 := wb_f (by rw [← q1]; decide) g3
              have h := wb_f (by rw [c1]; decide) h
              obtain ⟨r10, e10, h⟩ := wb_b h
              obtain ⟨I11, eI11, h⟩ := wb_v h
              obtain ⟨M12, eM12, h⟩ := wb_v h
              have h := Option.some.inj h
              subst h
              obtain ⟨⟨hb1, hb2⟩, hb3, hb4⟩ := hb
              have n20 : (20 : Int32).toInt = 20 := by decide
              have n22 : (22 : Int32).toInt = 22 := by decide
              have v1 := ia_mul 20 20 n20 b (by omega) (by omega)
              have v2 := ia_add ((20 : Int32) * b) w (by omega) (by omega)
              have v3 := ia_mul 22 22 n22 ((20 : Int32) * b + w) (by omega) (by omega)
              have v4 : ((22 : Int32) * ((20 : Int32) * b + w)).toInt = ((22 * (20 * b.toInt + w.toInt)).toNat : Int) := by omega
              obtain ⟨w1, w2, w3⟩ := w86 v4 (by omega) N2 0 J' L' K2 S g3 (by omega)
              have i11 : ∀ k, k < 9 → I11 k = r7.2.2.2.1 k := fun k hk => by
                rw [eI11, wbi_ge (Or.inl (by omega))]; exact i8 k hk
              unfold fX1_keepDraft at e10
              obtain ⟨-, e10⟩ := wb_n e10
              obtain ⟨Mk, eMk, e10⟩ := wb_v e10
              have e10 := Option.some.inj e10
              subst e10
              refine ⟨?_, ?_, ?_, ?_, ?_⟩
              · rw [w2]; exact y0
              · show I11 7 = S.1
                rw [i11 7 (by decide), c4, i5 7 (by decide), t6, w1]
              · show I11 0 = 0
                rw [i11 0 (by decide), x0]
              · rw [w2]; exact y3
              · intro j hj
                show M12 13 j = _
                rw [w3 j, eM12, wbi_in (by decide) (by decide)]
                show Mk 0 j = _
                rw [eMk]
                show (if (0 : Nat) = 0 then va_cpy (wb_sh M9 13 1) (wb_sh M9 13 0) _ _ _ else _) j = _
                rw [if_pos rfl]
                show va_cpy (M9 14) (M9 13) _ _ _ j = _
                unfold va_cpy
                rw [show ((0 : Int32)).toNatClampNeg = 0 from by decide, show ((22 : Int32)).toNatClampNeg = 22 from by decide, show (((22 : Int32) * ((20 : Int32) * b + w))).toNatClampNeg = (22 * (20 * b.toInt + w.toInt)).toNat from by rw [cl32]; omega]
                by_cases hj2 : (22 * (20 * b.toInt + w.toInt)).toNat ≤ j ∧ j < (22 * (20 * b.toInt + w.toInt)).toNat + 22
                · rw [if_pos hj2, if_pos (by omega), Nat.zero_add, m914]
                  exact c3 _ (by omega)
                · rw [if_neg hj2, if_neg (by omega), m913, k7]
                  exact er j hj
            · rw [good2 c2.2] at q1
              have q1 := Option.some.inj q1
              have g3 := Option.some.inj (wb_t q1.symm g3)
              subst g3
              have h := Option.some.inj (wb_t c1 h)
              subst h
              refine ⟨y0, ?_, ?_, y3, ?_⟩
              · show I8 7 = J' 4
                rw [i8 7 (by decide)]; exact c2.1.symm
              · show I8 0 = 0
                rw [i8 0 (by decide)]; exact x0
              · intro j hj
                show M9 13 j = K2 7 j
                rw [m913, k7]; exact er j hj
          · exfalso
            apply c
            rw [ei, ← j53]
            exact ⟨n0, n1⟩
        · left
          rcases c with ⟨-, c⟩ | ⟨c, -⟩
          · exfalso
            apply hn
            rw [j53, ← ei]
            exact c
          · rw [c, alow0] at h
            subst es6
            have g := Option.some.inj (wb_t (c := (0 : Int32) = 0) rfl g)
            subst g
            refine ⟨(Option.some.inj h).symm, ?_, ?_, rfl⟩
            · show (if J5 12 = 0 then (1 : Int32) else 2) = 2
              rw [j512]; rfl
            · exact j53
      · exact absurd hb hb2
    · cases q
/-! feed: class and reference -/
theorem TR.cg {I I' J J' : Nat → Int32} {M M' K K' : Nat → Nat → Int32} (h : TR I J M K) (h0 : I' 0 = I 0) (h3 : J' 3 = J 3) (hm : M' 0 = M 0) (hk : K' 8 = K 8) : TR I' J' M' K' := by
  unfold TR at h ⊢
  rw [h0, h3, hm, hk]
  exact h
theorem TR.put {I J : Nat → Int32} {M K : Nat → Nat → Int32} (h : TR I J M K) (h6 : (I 0).toInt < 600) {a b : Int32} (hab : BR a b) : TR (upd I 0 (I 0 + 1)) (upd J 3 (J 3 + 1)) (wb_um M 0 (I 0).toNatClampNeg a) (wb_um K 8 (J 3).toNatClampNeg b) ∧ (I 0 + 1).toInt = (I 0).toInt + 1 := by
  obtain ⟨a1, a2, a3, a4⟩ := h
  have e : (I 0 + 1).toInt = (I 0).toInt + 1 := inc32 a3
  refine ⟨⟨?_, ?_, ?_, ?_⟩, e⟩
  · show I 0 + 1 = J 3 + 1
    rw [a1]
  · show 0 ≤ (I 0 + 1).toInt
    omega
  · show (I 0 + 1).toInt ≤ 600
    omega
  · show ∀ j : Nat, (j : Int) < (I 0 + 1).toInt → BR (wb_um M 0 (I 0).toNatClampNeg a 0 j) (wb_um K 8 (J 3).toNatClampNeg b 8 j)
    intro j hj
    show BR ((if (0 : Nat) = 0 then upd (M 0) (I 0).toNatClampNeg a else M 0) j) ((if (8 : Nat) = 8 then upd (K 8) (J 3).toNatClampNeg b else K 8) j)
    rw [if_pos rfl, if_pos rfl, ← a1, cl32]
    unfold upd
    by_cases hj2 : j = (I 0).toInt.toNat
    · rw [if_pos hj2, if_pos hj2]; exact hab
    · rw [if_neg hj2, if_neg hj2]; exact a4 j (by omega)
theorem put_l {N N2 : Nat} {x : Int32} : ∀ (fu fv m : Nat) (I J : Nat → Int32) (L : Int64) (M K : Nat → Nat → Int32) (y : Int32) R S, y.toInt = 8 * (m : Int) - 8 → m ≤ 4 → fX9_put_L3 N x fu I M y = some R → fX12_lays_L3 N2 x fv J L K y = some S → TR I J M K → (I 0).toInt + (m : Int) ≤ 600 → TR R.1 S.1 R.2 S.2.2 ∧ (R.1 0).toInt = (I 0).toInt + (m : Int) := by
  intro fu
  induction fu with
  | zero => intro fv m I J L M K y R S hy hm h; cases (show none = some R from h)
  | succ fu ih =>
    intro fv m I J L M K y R S hy hm h g tr h6
    cases fv with
    | zero => cases (show none = some S from g)
    | succ fv =>
      rw [fX9_put_L3.eq_2] at h
      rw [fX12_lays_L3.eq_2] at g
      cases m with
      | zero =>
        have c : y < 0 := (lt32 rfl (by decide : (0 : Int32).toInt = 0)).mpr (by omega)
        have h := Option.some.inj (wb_t c h)
        have g := Option.some.inj (wb_t c g)
        subst h
        subst g
        exact ⟨tr, by show (I 0).toInt = _; omega⟩
      | succ m =>
        have c : ¬ y < 0 := fun z => by
          have := (lt32 rfl (by decide : (0 : Int32).toInt = 0)).mp z
          omega
        have h := wb_f c h
        have g := wb_f c g
        have h := wb_f (fun z => by
          have := (le32 (by decide : (600 : Int32).toInt = 600) rfl).mp z
          omega) h
        obtain ⟨-, h⟩ := wb_n h
        obtain ⟨-, g⟩ := wb_n g
        obtain ⟨M1, eM, h⟩ := wb_v h
        obtain ⟨I1, eI, h⟩ := wb_v h
        obtain ⟨v3, ev, h⟩ := wb_v h
        obtain ⟨K1, eK, g⟩ := wb_v g
        obtain ⟨J1, eJ, g⟩ := wb_v g
        obtain ⟨u3, eu, g⟩ := wb_v g
        rw [eu, ← ev] at g
        obtain ⟨t1, t2⟩ := tr.put (by omega) (BR_of (x >>> (y &&& 31)))
        have n8 : (-8 : Int32).toInt = -8 := by decide
        have yv : v3.toInt = 8 * (m : Int) - 8 := by
          rw [ev, ia_add y (-8) (by omega) (by omega), n8]
          omega
        have i1 : (I1 0).toInt = (I 0).toInt + 1 := by rw [eI]; exact t2
        obtain ⟨u1, u2⟩ := ih fv m I1 J1 L M1 K1 v3 R S yv (by omega) h g (by rw [eI, eJ, eM, eK]; exact t1) (by omega)
        exact ⟨u1, by omega⟩
theorem put_t {N N2 : Nat} {x : Int32} {I J : Nat → Int32} {L : Int64} {M K : Nat → Nat → Int32} {R : (Nat → Int32) × (Nat → Nat → Int32)} {S : (Nat → Int32) × Int64 × (Nat → Nat → Int32)} (h : fX9_put N I M x = some R) (g : fX12_lays N2 J L K x = some S) (tr : TR I J M K) (h6 : (I 0).toInt ≤ 596) : TR (wb_in I 0 9 R.1) S.1 (wb_in M 0 1 R.2) S.2.2 ∧ (wb_in I 0 9 R.1 0).toInt = (I 0).toInt + 4 := by
  obtain ⟨t1, t2⟩ := put_l N N2 4 I J L M K 24 R S (by decide) (Nat.le_refl _) h g tr (by omega)
  have e0 : wb_in I 0 9 R.1 0 = R.1 0 := wbi_lt (by decide)
  exact ⟨t1.cg e0 rfl (wbi_lt (by decide)) rfl, by rw [e0]; exact t2⟩
theorem fed {N N2 : Nat} {a b c d e : Int32} {I J : Nat → Int32} {L : Int64} {M K : Nat → Nat → Int32} {R : Int32 × (Nat → Int32) × (Nat → Nat → Int32)} {S : Int32 × (Nat → Int32) × Int64 × (Nat → Nat → Int32)} (tr : TR I J M K) (h : fX11_feed N I M a b c d e = some R) (g : fX12_feed N2 J L K a b c d e = some S) : R.1 = S.1 ∧ TR R.2.1 S.2.1 R.2.2 S.2.2.2 := by
  unfold fX11_feed at h
  unfold fX12_feed at g
  obtain ⟨r1, e1, h⟩ := wb_b h
  obtain ⟨J1, eJ1, g⟩ := wb_v g
  have j3 : J1 3 = J 3 := by rw [eJ1]; rfl
  have trj : TR I J1 M K := tr.cg rfl j3 rfl rfl
  obtain ⟨a1, a2, a3, a4⟩ := tr
  have n20 : (20 : Int32).toInt = 20 := by decide
  have v1 := ia_add (J1 3) 20 (by rw [j3, ← a1]; omega) (by rw [j3, ← a1]; omega)
  rw [j3, ← a1, n20] at v1
  unfold fX9_hasRoom at e1
  rcases ifr e1 with ⟨c1, e1⟩ | ⟨c1, e1⟩
  · have e1 := Option.some.inj e1
    have c1 := (lt32 (by decide : (580 : Int32).toInt = 580) rfl).mp c1
    have h := Option.some.inj (wb_t e1.symm h)
    subst h
    have g := wb_f (fun z => by
      rw [j3, ← a1] at z
      have := (le32 v1 (by decide : (600 : Int32).toInt = 600)).mp z
      omega) g
    have g := Option.some.inj g
    subst g
    exact ⟨rfl, trj⟩
  · have e1 := Option.some.inj e1
    have c1 : ¬ _ := fun z => c1 ((lt32 (by decide : (580 : Int32).toInt = 580) rfl).mpr z)
    have h := wb_f (by rw [← e1]; decide) h
    have g := wb_t (by
      rw [j3, ← a1]
      exact (le32 v1 (by decide : (600 : Int32).toInt = 600)).mpr (by omega)) g
    obtain ⟨r2, e2, h⟩ := wb_b h
    obtain ⟨I3, eI3, h⟩ := wb_v h
    obtain ⟨M4, eM4, h⟩ := wb_v h
    obtain ⟨r5, e5, h⟩ := wb_b h
    obtain ⟨I6, eI6, h⟩ := wb_v h
    obtain ⟨M7, eM7, h⟩ := wb_v h
    obtain ⟨r8, e8, h⟩ := wb_b h
    obtain ⟨I9, eI9, h⟩ := wb_v h
    obtain ⟨M10, eM10, h⟩ := wb_v h
    obtain ⟨r11, e11, h⟩ := wb_b h
    obtain ⟨I12, eI12, h⟩ := wb_v h
    obtain ⟨M13, eM13, h⟩ := wb_v h
    obtain ⟨r14, e14, h⟩ := wb_b h
    obtain ⟨I15, eI15, h⟩ := wb_v h
    obtain ⟨M16, eM16, h⟩ := wb_v h
    obtain ⟨s2, f2, g⟩ := wb_b g
    obtain ⟨s3, f3, g⟩ := wb_b g
    obtain ⟨s4, f4, g⟩ := wb_b g
    obtain ⟨s5, f5, g⟩ := wb_b g
    obtain ⟨s6, f6, g⟩ := wb_b g
    obtain ⟨t1, u1⟩ := put_t e2 f2 trj (by omega)
    rw [← eI3, ← eM4] at t1
    rw [← eI3] at u1
    obtain ⟨t2, u2⟩ := put_t e5 f3 t1 (by omega)
    rw [← eI6, ← eM7] at t2
    rw [← eI6] at u2
    obtain ⟨t3, u3⟩ := put_t e8 f4 t2 (by omega)
    rw [← eI9, ← eM10] at t3
    rw [← eI9] at u3
    obtain ⟨t4, u4⟩ := put_t e11 f5 t3 (by omega)
    rw [← eI12, ← eM13] at t4
    rw [← eI12] at u4
    obtain ⟨t5, u5⟩ := put_t e14 f6 t4 (by omega)
    rw [← eI15, ← eM16] at t5
    have h := Option.some.inj h
    have g := Option.some.inj g
    subst h
    subst g
    exact ⟨t5.1, t5⟩
/-! a HOUSE's LINES: class and reference -/
def HRg (a g w p : Int32) : Prop := (0 ≤ a.toInt ∧ a.toInt ≤ 21599) ∧ (0 ≤ g.toInt ∧ g.toInt ≤ 2000000) ∧ (0 ≤ w.toInt ∧ w.toInt ≤ 10800) ∧ 1 ≤ p.toInt ∧ p.toInt ≤ 1000000
def H4 (m K : Nat → Nat → Int32) : Prop := ∀ j : Nat, j < 28 → (m 0 j = K 9 j ∧ m 1 j = K 10 j ∧ m 2 j = K 11 j ∧ m 3 j = K 12 j) ∧ HRg (K 9 j) (K 10 j) (K 11 j) (K 12 j)
theorem tw_of {N : Nat} {I : Nat → Int32} {M : Nat → Nat → Int32} {w : Nat} {r : Int32} {r2 : (Nat → Int32) × (Nat → Nat → Int32)} (h : fX9_isWord N I M w = some r) (hr : ¬ r = 0) (h2 : fX9_step N I M = some r2) : fX9_takeWord N I M w = some (1, r2.1, r2.2) := by
  unfold fX9_takeWord
  rw [h]
  show (if r = 0 then _ else _) = _
  rw [if_neg hr, h2]
  rfl
/-- a word and a number of both -/
theorem wn_tk {N N2 : Nat} {M K : Nat → Nat → Int32} {I J : Nat → Int32} {L : Int64} {k : Nat} (hk : k < 19) {a b : Int32} {R : Int32 × (Nat → Int32) × (Nat → Nat → Int32)} {S : Int32 × (Nat → Int32) × Int64 × (Nat → Nat → Int32)} (tk : TK I J L M K) (j4 : J 4 = 0) (h : fX9_takeWord N I M (wz k) = some R) (g : fX12_named N2 J L K (nI k) a b = some S) : (R.1 = 0 ∧ ¬ S.2.1 4 = 0) ∨ (R.1 = 1 ∧ R.2.2 = M ∧ ∀ Q, fX9_takeNumber N R.2.1 M a b = some Q → (Q.1 = 0 ∧ ¬ S.2.1 4 = 0) ∨ (Q.1 = 1 ∧ TK Q.2.1 S.2.1 S.2.2.1 M K ∧ S.2.1 4 = 0 ∧ Q.2.1 6 = S.1 ∧ a.toInt ≤ S.1.toInt ∧ S.1.toInt ≤ b.toInt ∧ Q.2.2 = M ∧ S.2.2.2 = K ∧ (I 3).toInt ≤ (Q.2.1 2).toInt)) := by
  rcases wrd_tk hk tk j4 h g with ⟨c1, c2, c3, c4, J1, L1, c5, c6, c7⟩ | ⟨c1, c2, c3, c4⟩
  · right
    refine ⟨c1, c2, fun Q hQ => ?_⟩
    rcases num_tk c5 c6 hQ c7 with ⟨d1, d2, d3, d4, d5, d6, d7, d8, d9, d10⟩ | ⟨d1, d2, d3, d4⟩
    · refine Or.inr ⟨d1, d2, d3, d4, d5, d6, d7, d8, ?_⟩
      have := c5.2.2.2.2.1
      omega
    · exact Or.inl ⟨d1, d4.2⟩
  · exact Or.inl ⟨c1, c4.2⟩
theorem n102 {N : Nat} {J : Nat → Int32} {L : Int64} {K : Nat → Nat → Int32} {y1 y2 y3 y4 y5 y6 : Int32} {S : (Nat → Int32) × Int64 × (Nat → Nat → Int32)} (j4 : ¬ J 4 = 0) (h : fX12_readsSet_J102 N J L K y1 y2 y3 y4 y5 y6 = some S) : S = (J, L, K) := by
  unfold fX12_readsSet_J102 at h
  rw [good2 j4, Option.bind_some] at h
  exact (Option.some.inj (wb_t (c := (0 : Int32) = 0) rfl h)).symm
theorem g102 {N : Nat} {J : Nat → Int32} {L : Int64} {K : Nat → Nat → Int32} {y1 y2 y3 y4 y5 y6 : Int32} {S : (Nat → Int32) × Int64 × (Nat → Nat → Int32)} (j4 : J 4 = 0) (h : fX12_readsSet_J102 N J L K y1 y2 y3 y4 y5 y6 = some S) : S.1 = J ∧ S.2.1 = L ∧ S.2.2 8 = K 8 ∧ S.2.2 13 = K 13 ∧ S.2.2 14 = K 14 ∧ S.2.2 15 = K 15 ∧ S.2.2 9 = upd (K 9) ((7 : Int32) * y1 + y2).toNatClampNeg y3 ∧ S.2.2 10 = upd (K 10) ((7 : Int32) * y1 + y2).toNatClampNeg y4 ∧ S.2.2 11 = upd (K 11) ((7 : Int32) * y1 + y2).toNatClampNeg y5 ∧ S.2.2 12 = upd (K 12) ((7 : Int32) * y1 + y2).toNatClampNeg y6 := by
  unfold fX12_readsSet_J102 at h
  rw [good1 j4, Option.bind_some] at h
  have h := wb_f (c := (1 : Int32) = 0) (by decide) h
  obtain ⟨-, h⟩ := wb_n h
  obtain ⟨K1, e1, h⟩ := wb_v h
  obtain ⟨-, h⟩ := wb_n h
  obtain ⟨K2, e2, h⟩ := wb_v h
  obtain ⟨-, h⟩ := wb_n h
  obtain ⟨K3, e3, h⟩ := wb_v h
  obtain ⟨-, h⟩ := wb_n h
  obtain ⟨K4, e4, h⟩ := wb_v h
  have h := Option.some.inj h
  subst h
  rw [e3, e2, e1] at e4
  refine ⟨rfl, rfl, ?_, ?_, ?_, ?_, ?_, ?_, ?_, ?_⟩ <;> (show K4 _ = _; rw [e4]; rfl)
/-- behind the name of a set's LINE -/
noncomputable def tset (N2 : Nat) (J : Nat → Int32) (L : Int64) (K : Nat → Nat → Int32) (y1 y2 : Int32) : Option ((Nat → Int32) × Int64 × (Nat → Nat → Int32)) :=
  (fX12_named N2 J L K (12 : Int32) (0 : Int32) (21599 : Int32)).bind fun r7 => (some (r7.1)).bind fun v8 => (fX12_named N2 r7.2.1 r7.2.2.1 r7.2.2.2 (13 : Int32) (0 : Int32) (2000000 : Int32)).bind fun r9b => (some (r9b.1)).bind fun v10 => (fX12_isGood N2 r9b.2.1 r9b.2.2.1 r9b.2.2.2).bind fun r11 => if r11 = 0 then (fX12_readsSet_J102 N2 r9b.2.1 r9b.2.2.1 r9b.2.2.2 y1 y2 v8 v10 (0 : Int32) (1 : Int32)) else (fX12_knownWord N2 r9b.2.1 r9b.2.2.1 r9b.2.2.2).bind fun r12 => if r12 = (14 : Int32) then ((fX12_named N2 r9b.2.1 r9b.2.2.1 r9b.2.2.2 (14 : Int32) (0 : Int32) (10800 : Int32)).bind fun r13 => (some (r13.1)).bind fun v14 => (fX12_named N2 r13.2.1 r13.2.2.1 r13.2.2.2 (15 : Int32) (2 : Int32) (1000000 : Int32)).bind fun r15 => (some (r15.1)).bind fun v16 => fX12_readsSet_J102 N2 r15.2.1 r15.2.2.1 r15.2.2.2 y1 y2 v8 v10 v14 v16) else fX12_readsSet_J102 N2 r9b.2.1 r9b.2.2.1 r9b.2.2.2 y1 y2 v8 v10 (0 : Int32) (1 : Int32)
theorem n_tset {N : Nat} {J : Nat → Int32} {L : Int64} {K : Nat → Nat → Int32} {y1 y2 : Int32} {S : (Nat → Int32) × Int64 × (Nat → Nat → Int32)} (j4 : ¬ J 4 = 0) (h : tset N J L K y1 y2 = some S) : S = (J, L, K) := by
  unfold tset at h
  obtain ⟨r7, e7, h⟩ := wb_b h
  have e7 := nam_n j4 e7
  subst e7
  obtain ⟨v8, e8, h⟩ := wb_v h
  obtain ⟨r9, e9, h⟩ := wb_b h
  have e9 := nam_n j4 e9
  subst e9
  obtain ⟨v10, e10, h⟩ := wb_v h
  obtain ⟨r11, e11, h⟩ := wb_b h
  rcases good0 e11 with ⟨-, q⟩ | ⟨q, -⟩
  · exact absurd q j4
  · exact n102 j4 (wb_t q h)
theorem j32_t {N : Nat} {J : Nat → Int32} {L : Int64} {K : Nat → Nat → Int32} {y1 y2 z : Int32} {S : (Nat → Int32) × Int64 × (Nat → Nat → Int32)} (h : fX12_readsSet_J32 N J L K y1 y2 z = some S) : ∃ r6, fX12_need N J L K z = some r6 ∧ tset N r6.1 r6.2.1 r6.2.2 y1 y2 = some S := by
  unfold fX12_readsSet_J32 at h
  obtain ⟨r6, e6, h⟩ := wb_b h
  exact ⟨r6, e6, h⟩
theorem n32s {N : Nat} {J : Nat → Int32} {L : Int64} {K : Nat → Nat → Int32} {y1 y2 z : Int32} {S : (Nat → Int32) × Int64 × (Nat → Nat → Int32)} (j4 : ¬ J 4 = 0) (h : fX12_readsSet_J32 N J L K y1 y2 z = some S) : S = (J, L, K) := by
  obtain ⟨r6, e6, h⟩ := j32_t h
  have e6 := need_n j4 e6
  subst e6
  exact n_tset j4 h
theorem b32s {N : Nat} {J : Nat → Int32} {L : Int64} {K : Nat → Nat → Int32} {y1 y2 : Int32} {S : (Nat → Int32) × Int64 × (Nat → Nat → Int32)} (j4 : J 4 = 0) (h : fX12_readsSet_J32 N J L K y1 y2 0 = some S) : ¬ S.1 4 = 0 := by
  obtain ⟨r6, e6, h⟩ := j32_t h
  unfold fX12_need at e6
  rw [good1 j4, Option.bind_some] at e6
  have e6 := wb_f (c := (1 : Int32) = 0) (by decide) e6
  have e6 := wb_t (c := (0 : Int32) = 0) rfl e6
  obtain ⟨s6, f6, e6⟩ := wb_b e6
  have e6 := Option.some.inj e6
  subst e6
  have f6 := wrg0 j4 f6
  subst f6
  have h := n_tset (J := upd (upd J 4 1) 5 (J 9)) (show ¬ (1 : Int32) = 0 by decide) h
  subst h
  show ¬ (1 : Int32) = 0
  decide
/-- how a LINE without its sign ; ends for both: own state (class), all (reference) -/
def LO (I : Nat → Int32) (M : Nat → Nat → Int32) (R1 : Int32) (RI : Nat → Int32) (RM : Nat → Nat → Int32) (S : (Nat → Int32) × Int64 × (Nat → Nat → Int32)) : Prop := TK RI S.1 S.2.1 M S.2.2 ∧ S.1 4 = 0 ∧ RM = M ∧ (I 3).toInt ≤ (RI 3).toInt
theorem tabl {N N2 : Nat} {M K M0 : Nat → Nat → Int32} {I J I0 : Nat → Int32} {L : Int64} {y1 y2 : Int32} {R : Int32 × (Nat → Int32) × (Nat → Nat → Int32) × (Nat → Int32) × (Nat → Nat → Int32)} {S : (Nat → Int32) × Int64 × (Nat → Nat → Int32)} (tk : TK I J L M K) (j4 : J 4 = 0) (d : H4 M0 K) (h : fX5_readTable N I0 M0 I M ((7 : Int32) * y1 + y2) = some R)
    (g : tset N2 J L K y1 y2 = some S) :
    (R.1 = 0 ∧ ¬ S.1 4 = 0) ∨ (R.1 = 1 ∧ LO I M R.1 R.2.2.2.1 R.2.2.2.2 S ∧ R.2.1 = I0 ∧ R.2.2.1 4 = M0 4 ∧ R.2.2.1 5 = M0 5 ∧ H4 R.2.2.1 S.2.2) := by
  unfold fX5_readTable at h
  unfold tset at g
  obtain ⟨r1, e1, h⟩ := wb_b h
  obtain ⟨s7, f7, g⟩ := wb_b g
  obtain ⟨v8, ev8, g⟩ := wb_v g
  obtain ⟨s9, f9, g⟩ := wb_b g
  obtain ⟨v10, ev10, g⟩ := wb_v g
  obtain ⟨s11, f11, g⟩ := wb_b g
  -- a fault at the first two words: nothing follows
  have bad9 : ¬ s9.2.1 4 = 0 → ¬ S.1 4 = 0 := by
    intro q
    rcases good0 f11 with ⟨-, q2⟩ | ⟨q2, -⟩
    · exact absurd q2 q
    · have g := n102 q (wb_t q2 g)
      subst g
      exact q
  have bad7 : ¬ s7.2.1 4 = 0 → ¬ S.1 4 = 0 := by
    intro q
    have f9 := nam_n q f9
    subst f9
    exact bad9 q
  rcases wn_tk (k := 12) (by decide) tk j4 e1 f7 with ⟨c1, c2⟩ | ⟨c1, c2, c3⟩
  · have h := Option.some.inj (wb_t c1 h)
    subst h
    exact Or.inl ⟨rfl, bad7 c2⟩
  · have h := wb_f (by rw [c1]; decide) h
    rw [c2] at h
    obtain ⟨r2, e2, h⟩ := wb_b h
    rcases c3 r2 e2 with ⟨d1, d2⟩ | ⟨d1, d2, d3, d4, d5, d6, d7, d8, d9⟩
    · have h := Option.some.inj (wb_t d1 h)
      subst h
      exact Or.inl ⟨rfl, bad7 d2⟩
    · have h := wb_f (by rw [d1]; decide) h
      obtain ⟨-, h⟩ := wb_n h
      obtain ⟨M3, eM3, h⟩ := wb_v h
      rw [d7] at h
      rw [d8] at f9
      obtain ⟨r4, e4, h⟩ := wb_b h
      rcases wn_tk (k := 13) (by decide) d2 d3 e4 f9 with ⟨k1, k2⟩ | ⟨k1, k2, k3⟩
      · have h := Option.some.inj (wb_t k1 h)
        subst h
        exact Or.inl ⟨rfl, bad9 k2⟩
      · have h := wb_f (by rw [k1]; decide) h
        rw [k2] at h
        obtain ⟨r5, e5, h⟩ := wb_b h
        rcases k3 r5 e5 with ⟨l1, l2⟩ | ⟨l1, l2, l3, l4, l5, l6, l7, l8, l9⟩
        · have h := Option.some.inj (wb_t l1 h)
          subst h
          exact Or.inl ⟨rfl, bad9 l2⟩
        · have h := wb_f (by rw [l1]; decide) h
          obtain ⟨-, h⟩ := wb_n h
          obtain ⟨M6, eM6, h⟩ := wb_v h
          obtain ⟨-, h⟩ := wb_n h
          obtain ⟨M7, eM7, h⟩ := wb_v h
          obtain ⟨-, h⟩ := wb_n h
          obtain ⟨M8, eM8, h⟩ := wb_v h
          rw [l7] at h
          rw [good1 l3] at f11
          have f11 := Option.some.inj f11
          have g := wb_f (by rw [← f11]; decide) g
          obtain ⟨s12, f12, g⟩ := wb_b g
          rw [l8] at g f12
          obtain ⟨r9, e9, h⟩ := wb_b h
          have l22 := l2
          obtain ⟨q, b1, b2, b3, b4, b5, b6, b7⟩ := l22
          have kk := (kw l2 f12).1 14 (by decide)
          rw [eM7, eM6, eM3] at eM8
          have mono : (I 3).toInt ≤ (r5.2.1 3).toInt := by
            have a1 := d2.2.2.2.2.1
            have a2 := l2.2.2.2.2.1
            omega
          rcases isw (w := 8) (by decide) b3 b4 (by have := q.2.2.2.1; have := q.2.2.2.2.1; omega) e9 with ⟨x1, x2⟩ | ⟨x1, x2⟩
          · have g := wb_t (kk.mpr x2) g
            have h := wb_f (by rw [x1]; decide) h
            obtain ⟨r10, e10, h⟩ := wb_b h
            obtain ⟨r11, e11, h⟩ := wb_b h
            obtain ⟨s13, f13, g⟩ := wb_b g
            obtain ⟨v14, ev14, g⟩ := wb_v g
            obtain ⟨s15, f15, g⟩ := wb_b g
            obtain ⟨v16, ev16, g⟩ := wb_v g
            have bad15 : ¬ s15.2.1 4 = 0 → ¬ S.1 4 = 0 := by
              intro q
              have g := n102 q g
              subst g
              exact q
            have bad13 : ¬ s13.2.1 4 = 0 → ¬ S.1 4 = 0 := by
              intro q
              have f15 := nam_n q f15
              subst f15
              exact bad15 q
            have et := tw_of e9 (by rw [x1]; decide) e10
            rcases wn_tk (k := 14) (by decide) l2 l3 et f13 with ⟨o1, o2⟩ | ⟨o1, o2, o3⟩
            · exact absurd o1 (show ¬ (1 : Int32) = 0 by decide)
            · have o2 : r10.2 = M := o2
              rw [o2] at e11
              rcases o3 r11 e11 with ⟨p1, p2⟩ | ⟨p1, p2, p3, p4, p5, p6, p7, p8, p9⟩
              · have h := Option.some.inj (wb_t p1 h)
                subst h
                exact Or.inl ⟨rfl, bad13 p2⟩
              · have h := wb_f (by rw [p1]; decide) h
                obtain ⟨-, h⟩ := wb_n h
                obtain ⟨M12, eM12, h⟩ := wb_v h
                rw [p7] at h
                rw [p8] at f15
                obtain ⟨r13, e13, h⟩ := wb_b h
                rcases wn_tk (k := 15) (by decide) p2 p3 e13 f15 with ⟨u1, u2⟩ | ⟨u1, u2, u3⟩
                · have h := Option.some.inj (wb_t u1 h)
                  subst h
                  exact Or.inl ⟨rfl, bad15 u2⟩
                · have h := wb_f (by rw [u1]; decide) h
                  rw [u2] at h
                  obtain ⟨r14, e14, h⟩ := wb_b h
                  rcases u3 r14 e14 with ⟨w1, w2⟩ | ⟨w1, w2, w3, w4, w5, w6, w7, w8, w9⟩
                  · have h := Option.some.inj (wb_t w1 h)
                    subst h
                    exact Or.inl ⟨rfl, bad15 w2⟩
                  · have h := wb_f (by rw [w1]; decide) h
                    obtain ⟨-, h⟩ := wb_n h
                    obtain ⟨M15, eM15, h⟩ := wb_v h
                    have h := Option.some.inj h
                    subst h
                    rw [w8] at g
                    obtain ⟨z1, z2, z3, z4, z5, z6, z7, z8, z9, z10⟩ := g102 w3 g
                    rw [eM12, eM8] at eM15
                    right
                    refine ⟨rfl, ⟨?_, ?_, w7, ?_⟩, rfl, ?_, ?_, ?_⟩
                    · rw [z1, z2]
                      exact w2.cgK z3
                    · rw [z1]; exact w3
                    · have a1 := p2.2.2.2.2.1
                      have a2 := w2.2.2.2.2.1
                      have a3 := l2.2.2.2.2.1
                      show (I 3).toInt ≤ (r14.2.1 3).toInt
                      omega
                    · show M15 4 = M0 4
                      rw [eM15]; rfl
                    · show M15 5 = M0 5
                      rw [eM15]; rfl
                    · intro j hj
                      obtain ⟨⟨y1', y2', y3', y4'⟩, yr⟩ := d j hj
                      show (M15 0 j = _ ∧ M15 1 j = _ ∧ M15 2 j = _ ∧ M15 3 j = _) ∧ _
                      rw [z7, z8, z9, z10, eM15]
                      rw [← ev8] at d4 d5 d6
                      rw [← ev10] at l4 l5 l6
                      rw [← ev14] at p4 p5 p6
                      rw [← ev16] at w4 w5 w6
                      rw [d4, l4, p4, w4]
                      by_cases hj2 : j = ((7 : Int32) * y1 + y2).toNatClampNeg
                      · refine ⟨⟨?_, ?_, ?_, ?_⟩, ?_⟩
                        · show upd (M0 0) _ _ j = upd (K 9) _ _ j
                          unfold upd; rw [if_pos hj2, if_pos hj2]
                        · show upd (M0 1) _ _ j = upd (K 10) _ _ j
                          unfold upd; rw [if_pos hj2, if_pos hj2]
                        · show upd (upd (M0 2) _ _) _ _ j = upd (K 11) _ _ j
                          unfold upd; rw [if_pos hj2, if_pos hj2]
                        · show upd (upd (M0 3) _ _) _ _ j = upd (K 12) _ _ j
                          unfold upd; rw [if_pos hj2, if_pos hj2]
                        · unfold upd
                          rw [if_pos hj2, if_pos hj2, if_pos hj2, if_pos hj2]
                          have n0 : (0 : Int32).toInt = 0 := by decide
                          have n1 : (21599 : Int32).toInt = 21599 := by decide
                          have n2 : (2000000 : Int32).toInt = 2000000 := by decide
                          have n3 : (10800 : Int32).toInt = 10800 := by decide
                          have n4 : (2 : Int32).toInt = 2 := by decide
                          have n5 : (1000000 : Int32).toInt = 1000000 := by decide
                          exact ⟨⟨by omega, by omega⟩, ⟨by omega, by omega⟩, ⟨by omega, by omega⟩, by omega, by omega⟩
                      · refine ⟨⟨?_, ?_, ?_, ?_⟩, ?_⟩
                        · show upd (M0 0) _ _ j = upd (K 9) _ _ j
                          unfold upd; rw [if_neg hj2, if_neg hj2, y1']
                        · show upd (M0 1) _ _ j = upd (K 10) _ _ j
                          unfold upd; rw [if_neg hj2, if_neg hj2, y2']
                        · show upd (upd (M0 2) _ _) _ _ j = upd (K 11) _ _ j
                          unfold upd; rw [if_neg hj2, if_neg hj2, if_neg hj2, y3']
                        · show upd (upd (M0 3) _ _) _ _ j = upd (K 12) _ _ j
                          unfold upd; rw [if_neg hj2, if_neg hj2, if_neg hj2, y4']
                        · unfold upd
                          rw [if_neg hj2, if_neg hj2, if_neg hj2, if_neg hj2]
                          exact yr
          · have g := wb_f (fun z => x2 (kk.mp z)) g
            have h := Option.some.inj (wb_t x1 h)
            subst h
            obtain ⟨z1, z2, z3, z4, z5, z6, z7, z8, z9, z10⟩ := g102 l3 g
            right
            refine ⟨rfl, ⟨?_, ?_, rfl, mono⟩, rfl, ?_, ?_, ?_⟩
            · rw [z1, z2]
              exact l2.cgK z3
            · rw [z1]; exact l3
            · show M8 4 = M0 4
              rw [eM8]; rfl
            · show M8 5 = M0 5
              rw [eM8]; rfl
            · intro j hj
              obtain ⟨⟨y1', y2', y3', y4'⟩, yr⟩ := d j hj
              show (M8 0 j = _ ∧ M8 1 j = _ ∧ M8 2 j = _ ∧ M8 3 j = _) ∧ _
              rw [z7, z8, z9, z10, eM8]
              rw [← ev8] at d4 d5 d6
              rw [← ev10] at l4 l5 l6
              rw [d4, l4]
              by_cases hj2 : j = ((7 : Int32) * y1 + y2).toNatClampNeg
              · refine ⟨⟨?_, ?_, ?_, ?_⟩, ?_⟩
                · show upd (M0 0) _ _ j = upd (K 9) _ _ j
                  unfold upd; rw [if_pos hj2, if_pos hj2]
                · show upd (M0 1) _ _ j = upd (K 10) _ _ j
                  unfold upd; rw [if_pos hj2, if_pos hj2]
                · show upd (M0 2) _ _ j = upd (K 11) _ _ j
                  unfold upd; rw [if_pos hj2, if_pos hj2]
                · show upd (M0 3) _ _ j = upd (K 12) _ _ j
                  unfold upd; rw [if_pos hj2, if_pos hj2]
                · unfold upd
                  rw [if_pos hj2, if_pos hj2, if_pos hj2, if_pos hj2]
                  have n0 : (0 : Int32).toInt = 0 := by decide
                  have n1 : (21599 : Int32).toInt = 21599 := by decide
                  have n2 : (2000000 : Int32).toInt = 2000000 := by decide
                  exact ⟨⟨by omega, by omega⟩, ⟨by omega, by omega⟩, by decide, by decide⟩
              · refine ⟨⟨?_, ?_, ?_, ?_⟩, ?_⟩
                · show upd (M0 0) _ _ j = upd (K 9) _ _ j
                  unfold upd; rw [if_neg hj2, if_neg hj2, y1']
                · show upd (M0 1) _ _ j = upd (K 10) _ _ j
                  unfold upd; rw [if_neg hj2, if_neg hj2, y2']
                · show upd (M0 2) _ _ j = upd (K 11) _ _ j
                  unfold upd; rw [if_neg hj2, if_neg hj2, y3']
                · show upd (M0 3) _ _ j = upd (K 12) _ _ j
                  unfold upd; rw [if_neg hj2, if_neg hj2, y4']
                · unfold upd
                  rw [if_neg hj2, if_neg hj2, if_neg hj2, if_neg hj2]
                  exact yr
theorem stop_n {N : Nat} {S S2 : (Nat → Int32) × Int64 × (Nat → Nat → Int32)} (q : ¬ S.1 4 = 0) (g : (if S.1 8 = 3 then fX12_need N S.1 S.2.1 S.2.2 1 else fX12_need N S.1 S.2.1 S.2.2 0) = some S2) : ¬ S2.1 4 = 0 := by
  rcases ifr g with ⟨-, g⟩ | ⟨-, g⟩
  · have g := need_n q g
    subst g
    exact q
  · have g := need_n q g
    subst g
    exact q
/-- a LINE of both with its sign ; -/
def LnE (I : Nat → Int32) (M : Nat → Nat → Int32) (RI : Nat → Int32) (RM : Nat → Nat → Int32) (S2 : (Nat → Int32) × Int64 × (Nat → Nat → Int32)) : Prop := TK RI S2.1 S2.2.1 M S2.2.2 ∧ S2.1 4 = 0 ∧ RM = M ∧ (I 3).toInt ≤ (RI 2).toInt ∧ PsT RI
theorem stopl {N N2 : Nat} {I RI : Nat → Int32} {M RM : Nat → Nat → Int32} {R1 : Int32} {S S2 : (Nat → Int32) × Int64 × (Nat → Nat → Int32)} {r : Int32 × (Nat → Int32) × (Nat → Nat → Int32)} (lo : LO I M R1 RI RM S) (h : fX9_takeStop N RI RM = some r) (g : (if S.1 8 = 3 then fX12_need N2 S.1 S.2.1 S.2.2 1 else fX12_need N2 S.1 S.2.1 S.2.2 0) = some S2) : (r.1 = 0 ∧ ¬ S2.1 4 = 0) ∨ (r.1 = 1 ∧ LnE I M r.2.1 r.2.2 S2 ∧ S2.2.2 = S.2.2) := by
  obtain ⟨l1, l2, l3, l4⟩ := lo
  rw [l3] at h
  rcases stop_tk l1 l2 h g with ⟨k1, k2, k3, k4, k5, k6, k7, k8⟩ | ⟨k1, k2, k3, k4⟩
  · refine Or.inr ⟨k1, ⟨?_, k3, k4, ?_, k7⟩, k5⟩
    · rw [k5]; exact k2
    · have := l1.2.2.2.2.1
      omega
  · exact Or.inl ⟨k1, k4.2⟩
theorem setl {N N2 : Nat} {M K M0 : Nat → Nat → Int32} {I J I0 : Nat → Int32} {L : Int64} {R : Int32 × (Nat → Int32) × (Nat → Nat → Int32) × (Nat → Int32) × (Nat → Nat → Int32)} {S S2 : (Nat → Int32) × Int64 × (Nat → Nat → Int32)} (tk : TK I J L M K) (j4 : J 4 = 0) (d : H4 M0 K) (h : fX5_readSet N I0 M0 I M = some R) (g : fX12_readsSet N2 J L K = some S) (g2 : (if S.1 8 = 3 then fX12_need N2 S.1 S.2.1 S.2.2 1 else fX12_need N2 S.1 S.2.1 S.2.2 0) = some S2) :
    (R.1 = 0 ∧ ¬ S2.1 4 = 0) ∨ (R.1 = 1 ∧ LnE I M R.2.2.2.1 R.2.2.2.2 S2 ∧ S2.2.2 = S.2.2 ∧ R.2.1 = I0 ∧ R.2.2.1 4 = M0 4 ∧ R.2.2.1 5 = M0 5 ∧ H4 R.2.2.1 S2.2.2) := by
  unfold fX5_readSet at h
  unfold fX12_readsSet fX12_readsSet_J31 at g
  obtain ⟨r1, e1, h⟩ := wb_b h
  obtain ⟨s17, f17, g⟩ := wb_b g
  obtain ⟨t1, t2, t3, t4, t5, t6, t7⟩ := st_all e1 f17 tk.1 j4
  rw [t3] at h
  rw [t4] at g
  obtain ⟨r2, e2, h⟩ := wb_b h
  obtain ⟨s18, f18, g⟩ := wb_b g
  obtain ⟨v19, ev19, g⟩ := wb_v g
  obtain ⟨s20, f20, g⟩ := wb_b g
  have m1 := tk.2.2.2.2.1
  have m2 := t1.2.2.2.2.1
  rcases num_tk t1 t2 e2 f18 with ⟨c1, c2, c3, c4, c5, c6, c7, c8, c9, c10⟩ | ⟨c1, c2, c3, c4⟩
  · have h := wb_f (by rw [c1]; decide) h
    obtain ⟨v3, ev3, h⟩ := wb_v h
    rw [c7] at h
    rw [c8] at g f20
    obtain ⟨r4, e4, h⟩ := wb_b h
    have c22 := c2
    obtain ⟨q, b1, b2, b3, b4, b5, b6, b7⟩ := c22
    have kk := kw c2 f20
    have ev : v19 = v3 := by rw [ev19, ev3, c4]
    unfold fX9_namedOf at e4
    rcases nmd_l (n := 7) (by omega) b3 b4 (by have := q.2.2.2.1; have := q.2.2.2.2.1; omega) N 0 r4 (Nat.zero_le _) e4 (fun k hk => absurd hk (Nat.not_lt_zero k)) with ⟨k, hk, er, hw⟩ | ⟨er, hn⟩
    · have es : s20 = nI k := (kk.1 k (by omega)).mpr hw
      subst er
      subst es
      have tkk : (nI k).toInt = (k : Int) := nI_toInt (by omega)
      have g := wb_f (c := nI k < 0) (nI_pos (by omega)) g
      have g := wb_f (c := (7 : Int32) ≤ nI k) (fun z => by
        have := (le32 (by decide : (7 : Int32).toInt = 7) tkk).mp z
        omega) g
      have h := wb_f (fun z => by
        have := (eq32 tkk (by decide : (-1 : Int32).toInt = -1)).mp z
        omega) h
      obtain ⟨r5, e5, h⟩ := wb_b h
      obtain ⟨s6, f6, g⟩ := j32_t g
      unfold fX12_need at f6
      rw [good1 c3, Option.bind_some] at f6
      have f6 := wb_f (c := (1 : Int32) = 0) (by decide) f6
      have f6 := wb_f (c := (1 : Int32) = 0) (by decide) f6
      obtain ⟨s7, f7, f6⟩ := wb_b f6
      have f6 := Option.some.inj f6
      subst f6
      obtain ⟨u1, u2, u3, u4, u5, u6, u7⟩ := st_all e5 f7 q c3
      rw [u3] at h
      have g : tset N2 s7.1 s7.2.1 s7.2.2 v19 (nI k) = some S := g
      rw [u4, ev] at g
      obtain ⟨r6, e6, h⟩ := wb_b h
      rcases tabl u1 u2 d e6 g with ⟨k1, k2⟩ | ⟨k1, k2, k3, k4, k5, k6⟩
      · have h := Option.some.inj (wb_t k1 h)
        subst h
        exact Or.inl ⟨rfl, stop_n k2 g2⟩
      · have h := wb_f (by rw [k1]; decide) h
        obtain ⟨r7, e7, h⟩ := wb_b h
        rcases stopl k2 e7 g2 with ⟨l1, l2⟩ | ⟨l1, l2, l3⟩
        · have h := Option.some.inj (wb_t l1 h)
          subst h
          exact Or.inl ⟨rfl, l2⟩
        · have h := Option.some.inj (wb_f (by rw [l1]; decide) h)
          subst h
          obtain ⟨x1, x2, x3, x4, x5⟩ := l2
          refine Or.inr ⟨rfl, ⟨x1, x2, x3, ?_, x5⟩, l3, k3, k4, k5, ?_⟩
          · have y1 := c2.2.2.2.2.1
            have y2 := u1.2.2.2.2.1
            show (I 3).toInt ≤ (r7.2.1 2).toInt
            omega
          · rw [l3]; exact k6
    · left
      have h := wb_t er h
      obtain ⟨r8, e8, h⟩ := wb_b h
      have e8 := refu e8
      subst e8
      have h := Option.some.inj (wb_y h).2
      subst h
      refine ⟨rfl, stop_n ?_ g2⟩
      rcases kk.2 with z | ⟨k, hk, z⟩
      · exact b32s c3 (wb_t (by rw [z]; decide) g)
      · have tkk : (nI k).toInt = (k : Int) := nI_toInt (by omega)
        have g := wb_f (by rw [z]; exact nI_pos (by omega)) g
        refine b32s c3 (wb_t ?_ g)
        rw [z]
        refine (le32 (by decide : (7 : Int32).toInt = 7) tkk).mpr ?_
        by_cases k7 : k < 7
        · exact absurd ((kk.1 k hk).mp z) (hn k k7)
        · omega
  · left
    have h := Option.some.inj (wb_t c1 h)
    subst h
    refine ⟨rfl, stop_n ?_ g2⟩
    rcases ifr g with ⟨-, g⟩ | ⟨-, g⟩
    · rw [n32s c4.2 g]; exact c4.2
    · rcases ifr g with ⟨-, g⟩ | ⟨-, g⟩
      · rw [n32s c4.2 g]; exact c4.2
      · rw [n32s c4.2 g]; exact c4.2
/-! HANDS -/
def HH (m5 : Nat → Int32) (h : Int) (rd st : Nat → Int32) : Prop := ∀ a b : Nat, a < 30 → b < 30 → (bt (m5 a) b = true ↔ ∃ k : Nat, (k : Int) < h ∧ (rd k).toInt = (a : Int) ∧ (st k).toInt = (b : Int))
theorem bt_or1 {x : Int32} {b c : Nat} (hb : b < 32) (hc : c < 32) : bt (x ||| ((1 : Int32) <<< (nI c &&& 31))) b = true ↔ (bt x b = true ∨ b = c) := by
  rw [b_or, b_shl c hc 1 hb, Bool.or_eq_true, Bool.and_eq_true, decide_eq_true_eq]
  have h1 : ∀ i, i < 32 → (bt 1 i = true ↔ i = 0) := by decide +kernel
  constructor
  · rintro (h | ⟨h, h2⟩)
    · exact Or.inl h
    · right
      have := (h1 (b - c) (by omega)).mp h2
      omega
  · rintro (h | h)
    · exact Or.inl h
    · right
      subst h
      exact ⟨Nat.le_refl _, (h1 _ (by omega)).mpr (by omega)⟩
theorem n14h {N : Nat} {J : Nat → Int32} {L : Int64} {K : Nat → Nat → Int32} {S : (Nat → Int32) × Int64 × (Nat → Nat → Int32)} (j4 : ¬ J 4 = 0) (h : fX12_readsHand_J14 N J L K = some S) : S = (J, L, K) := by
  unfold fX12_readsHand_J14 at h
  rw [good2 j4, Option.bind_some] at h
  exact (Option.some.inj (wb_t (c := (0 : Int32) = 0) rfl h)).symm
theorem hanl {N N2 : Nat} {M K M0 : Nat → Nat → Int32} {I J I0 : Nat → Int32} {L : Int64} {R : Int32 × (Nat → Int32) × (Nat → Nat → Int32) × (Nat → Int32) × (Nat → Nat → Int32)} {S S2 : (Nat → Int32) × Int64 × (Nat → Nat → Int32)} (tk : TK I J L M K) (j4 : J 4 = 0) (hn : I0 0 = J 14) (h0 : 0 ≤ (J 14).toInt) (h30 : (J 14).toInt ≤ 30) (d : HH (M0 0) (J 14).toInt (K 15) (K 14)) (h : fX4_readHand N I0 M0 I M = some R) (g : fX12_readsHand N2 J L K = some S) (g2 : (if S.1 8 = 3 then fX12_need N2 S.1 S.2.1 S.2.2 1 else fX12_need N2 S.1 S.2.1 S.2.2 0) = some S2) :
    (R.1 = 0 ∧ ¬ S2.1 4 = 0) ∨ (R.1 = 1 ∧ LnE I M R.2.2.2.1 R.2.2.2.2 S2 ∧ S2.2.2 = S.2.2 ∧ R.2.1 0 = S.1 14 ∧ S2.1 14 = S.1 14 ∧ (0 ≤ (S.1 14).toInt ∧ (S.1 14).toInt ≤ 30) ∧ HH (R.2.2.1 0) (S.1 14).toInt (S.2.2 15) (S.2.2 14)) := by
  unfold fX4_readHand at h
  unfold fX12_readsHand at g
  rcases ifr h with ⟨c, h⟩ | ⟨c, h⟩
  · have c := (lt32 (by rw [hn]) (by decide : (30 : Int32).toInt = 30)).mp c
    have g := wb_f (fun z => by
      have := (eq32 (a := J 14) rfl (by decide : (30 : Int32).toInt = 30)).mp z
      omega) g
    unfold fX12_readsHand_J14 at g
    rw [good1 j4, Option.bind_some] at g
    have g := wb_f (c := (1 : Int32) = 0) (by decide) g
    obtain ⟨r1, e1, h⟩ := wb_b h
    obtain ⟨s2, f2, g⟩ := wb_b g
    obtain ⟨t1, t2, t3, t4, t5, t6, t7⟩ := st_all e1 f2 tk.1 j4
    rw [t3] at h
    rw [t4] at g
    obtain ⟨r2, e2, h⟩ := wb_b h
    obtain ⟨s3, f3, g⟩ := wb_b g
    obtain ⟨v4, ev4, g⟩ := wb_v g
    obtain ⟨s5, f5, g⟩ := wb_b g
    obtain ⟨v6, ev6, g⟩ := wb_v g
    obtain ⟨s7, f7, g⟩ := wb_b g
    have bad5 : ¬ s5.2.1 4 = 0 → ¬ S.1 4 = 0 := by
      intro q
      rcases good0 f7 with ⟨-, q2⟩ | ⟨q2, -⟩
      · exact absurd q2 q
      · have g := Option.some.inj (wb_t q2 g)
        subst g
        exact q
    have bad3 : ¬ s3.2.1 4 = 0 → ¬ S.1 4 = 0 := by
      intro q
      have f5 := nam_n q f5
      subst f5
      exact bad5 q
    rcases num_tk t1 t2 e2 f3 with ⟨c1, c2, c3, c4, c5, c6, c7, c8, c9, c10⟩ | ⟨c1, c2, c3, c4⟩
    · have h := wb_f (by rw [c1]; decide) h
      obtain ⟨v3, ev3, h⟩ := wb_v h
      rw [c7] at h
      rw [c8] at f5
      obtain ⟨r4, e4, h⟩ := wb_b h
      rcases wn_tk (k := 18) (by decide) c2 c3 e4 f5 with ⟨k1, k2⟩ | ⟨k1, k2, k3⟩
      · have h := Option.some.inj (wb_t k1 h)
        subst h
        exact Or.inl ⟨rfl, stop_n (bad5 k2) g2⟩
      · have h := wb_f (by rw [k1]; decide) h
        rw [k2] at h
        obtain ⟨r5, e5, h⟩ := wb_b h
        rcases k3 r5 e5 with ⟨l1, l2⟩ | ⟨l1, l2, l3, l4, l5, l6, l7, l8, l9⟩
        · have h := Option.some.inj (wb_t l1 h)
          subst h
          exact Or.inl ⟨rfl, stop_n (bad5 l2) g2⟩
        · have h := wb_f (by rw [l1]; decide) h
          obtain ⟨-, h⟩ := wb_n h
          obtain ⟨-, h⟩ := wb_n h
          obtain ⟨M6, eM6, h⟩ := wb_v h
          obtain ⟨I7, eI7, h⟩ := wb_v h
          rw [good1 l3] at f7
          have f7 := Option.some.inj f7
          have g := wb_f (by rw [← f7]; decide) g
          obtain ⟨-, g⟩ := wb_n g
          obtain ⟨K8, eK8, g⟩ := wb_v g
          obtain ⟨-, g⟩ := wb_n g
          obtain ⟨K9, eK9, g⟩ := wb_v g
          obtain ⟨J10, eJ10, g⟩ := wb_v g
          have g := Option.some.inj g
          subst g
          rw [eK8, l8] at eK9
          have j14 : s5.2.1 14 = J 14 := by
            rw [(fr_fX12_named f5).1 14 (by decide), (fr_fX12_number f3).1 14 (by decide), (fr_fX12_steps f2).1 14 (by decide)]
          rw [j14] at eK9
          have x14 : J10 14 = J 14 + 1 := by
            rw [eJ10]
            show s5.2.1 14 + 1 = _
            rw [j14]
          have a14 : (J 14 + 1).toInt = (J 14).toInt + 1 := inc32 (by omega)
          have lo : LO I M R.1 r5.2.1 r5.2.2 (J10, s5.2.2.1, K9) := by
            refine ⟨?_, ?_, l7, ?_⟩
            · have : TK r5.2.1 J10 s5.2.2.1 M K := by
                rw [eJ10]; exact l2
              exact this.cgK (by rw [eK9]; rfl)
            · show J10 4 = 0
              rw [eJ10]; exact l3
            · have y1 := t1.2.2.2.2.1
              have y2 := c2.2.2.2.2.1
              have y3 := l2.2.2.2.2.1
              show (I 3).toInt ≤ (r5.2.1 3).toInt
              omega
          obtain ⟨r8, e8, h⟩ := wb_b h
          have h := (wb_y h).2
          have h := Option.some.inj h
          subst h
          rcases stopl lo e8 g2 with ⟨x1, x2⟩ | ⟨x1, x2, x3⟩
          · exact Or.inl ⟨x1, x2⟩
          · right
            refine ⟨x1, x2, x3, ?_, ?_, ?_, ?_⟩
            · show I7 0 = J10 14
              rw [eI7, x14, ← hn]; rfl
            · rcases ifr g2 with ⟨-, g2⟩ | ⟨-, g2⟩
              · exact (fr_fX12_need g2).1 14 (by decide)
              · exact (fr_fX12_need g2).1 14 (by decide)
            · show 0 ≤ (J10 14).toInt ∧ (J10 14).toInt ≤ 30
              rw [x14, a14]; omega
            · intro a b ha hb
              show bt (M6 0 a) b = true ↔ ∃ k : Nat, (k : Int) < (J10 14).toInt ∧ (K9 15 k).toInt = (a : Int) ∧ (K9 14 k).toInt = (b : Int)
              rw [x14, a14]
              have kr : ∀ k, K9 15 k = if k = (J 14).toNatClampNeg then v4 else K 15 k := by
                intro k; rw [eK9]; rfl
              have ks : ∀ k, K9 14 k = if k = (J 14).toNatClampNeg then v6 else K 14 k := by
                intro k; rw [eK9]; rfl
              have v4r : v4 = v3 := by rw [ev4, ev3, c4]
              have v6r : v6 = r5.2.1 6 := by rw [ev6, l4]
              rw [← ev4] at c5 c6
              rw [← ev6] at l5 l6
              have n0 : (0 : Int32).toInt = 0 := by decide
              have n29 : (29 : Int32).toInt = 29 := by decide
              rw [n0] at c5 l5
              rw [n29] at c6 l6
              have m6 : M6 0 a = if a = v4.toInt.toNat then M0 0 a ||| ((1 : Int32) <<< (v6 &&& 31)) else M0 0 a := by
                rw [eM6, ← v4r, ← v6r]
                show (if (0 : Nat) = 0 then upd (M0 0) v4.toNatClampNeg _ else _) a = _
                rw [if_pos rfl]
                unfold upd
                rw [cl32]
                by_cases q : a = v4.toInt.toNat
                · rw [if_pos q, if_pos q, q]
                · rw [if_neg q, if_neg q]
              have e6n : v6 = nI v6.toInt.toNat := by
                apply t32
                rw [nI_toInt (by omega)]
                omega
              rw [m6]
              constructor
              · intro z
                by_cases q : a = v4.toInt.toNat
                · rw [if_pos q, e6n] at z
                  rcases (bt_or1 (by omega) (by omega)).mp z with z | z
                  · obtain ⟨k, w1, w2, w3⟩ := (d a b ha hb).mp z
                    refine ⟨k, by omega, ?_, ?_⟩
                    · rw [kr, if_neg (by rw [cl32]; omega)]; exact w2
                    · rw [ks, if_neg (by rw [cl32]; omega)]; exact w3
                  · refine ⟨(J 14).toInt.toNat, by omega, ?_, ?_⟩
                    · rw [kr, if_pos (cl32 _).symm]; omega
                    · rw [ks, if_pos (cl32 _).symm]; omega
                · rw [if_neg q] at z
                  obtain ⟨k, w1, w2, w3⟩ := (d a b ha hb).mp z
                  refine ⟨k, by omega, ?_, ?_⟩
                  · rw [kr, if_neg (by rw [cl32]; omega)]; exact w2
                  · rw [ks, if_neg (by rw [cl32]; omega)]; exact w3
              · rintro ⟨k, w1, w2, w3⟩
                by_cases q2 : k = (J 14).toNatClampNeg
                · rw [kr, if_pos q2] at w2
                  rw [ks, if_pos q2] at w3
                  rw [if_pos (by omega), e6n]
                  exact (bt_or1 (by omega) (by omega)).mpr (Or.inr (by omega))
                · rw [kr, if_neg q2] at w2
                  rw [ks, if_neg q2] at w3
                  have z := (d a b ha hb).mpr ⟨k, by rw [cl32] at q2; omega, w2, w3⟩
                  by_cases q : a = v4.toInt.toNat
                  · rw [if_pos q, e6n]
                    exact (bt_or1 (by omega) (by omega)).mpr (Or.inl z)
                  · rw [if_neg q]; exact z
    · have h := Option.some.inj (wb_t c1 h)
      subst h
      exact Or.inl ⟨rfl, stop_n (bad3 c4.2) g2⟩
  · left
    have c : ¬ _ := fun z => c ((lt32 (by rw [hn]) (by decide : (30 : Int32).toInt = 30)).mpr z)
    obtain ⟨r6, e6, h⟩ := wb_b h
    have e6 := refu e6
    subst e6
    have h := Option.some.inj (wb_y h).2
    subst h
    refine ⟨rfl, stop_n ?_ g2⟩
    have g := wb_t ((eq32 (a := J 14) rfl (by decide : (30 : Int32).toInt = 30)).mpr (by omega)) g
    obtain ⟨s, f, g⟩ := wb_b g
    have f := wrg0 j4 f
    subst f
    have g := n14h (J := upd (upd J 4 2) 5 (J 9)) (show ¬ (2 : Int32) = 0 by decide) g
    subst g
    show ¬ (2 : Int32) = 0
    decide
/-! CLIMATES -/
def psm (f : Nat → Int32) (o : Nat) : Nat → Int
  | 0 => 0
  | n + 1 => psm f o n + (f (o + n)).toInt
theorem psm_cg {f g : Nat → Int32} {o : Nat} : ∀ n, (∀ i, i < n → f (o + i) = g (o + i)) → psm f o n = psm g o n := by
  intro n
  induction n with
  | zero => intro _; rfl
  | succ n ih =>
    intro h
    show psm f o n + (f (o + n)).toInt = psm g o n + (g (o + n)).toInt
    rw [ih (fun i hi => h i (by omega)), h n (by omega)]
def HC (m4 : Nat → Int32) (c : Int) (ri : Nat → Int32) : Prop := (∀ k : Nat, k < 7 → (m4 (13 * k)).toInt = 0) ∧ ∀ k : Nat, (k : Int) < c → ∀ s : Nat, s ≤ 12 → (m4 (13 * k + s)).toInt = psm ri (12 * k) s
theorem tn9 {N : Nat} {I : Nat → Int32} {M : Nat → Nat → Int32} {a b : Int32} {R : Int32 × (Nat → Int32) × (Nat → Nat → Int32)} (h : fX9_takeNumber N I M a b = some R) : R.1 = 0 ∨ (R.1 = 1 ∧ I 4 = 2 ∧ ¬ (7 : Int32) < I 3 - I 2 ∧ R.2.1 6 = I 5 ∧ a.toInt ≤ (I 5).toInt ∧ (I 5).toInt ≤ b.toInt ∧ ∃ r2, fX9_step N (upd I 6 (I 5)) M = some r2 ∧ R = (1, r2.1, r2.2)) := by
  unfold fX9_takeNumber at h
  obtain ⟨r1, e1, h⟩ := wb_b h
  rcases hold e1 with ⟨c1, c2, c3, c4, c5⟩ | ⟨c1, -⟩ | ⟨c1, -⟩
  · right
    subst c1
    have h := wb_f (c := (1 : Int32) = 0) (by decide) h
    obtain ⟨r2, e2, h⟩ := wb_b h
    have h := Option.some.inj h
    subst h
    have c4 : ¬ _ := fun z => c4 ((lt32 rfl rfl).mpr z)
    have c5 := (le32 rfl rfl).mp c5
    exact ⟨rfl, c2, c3, (fr_fX9_step e2).1 6 (by decide), by omega, c5, r2, e2, rfl⟩
  · left
    subst c1
    have h := Option.some.inj (wb_t (c := (0 : Int32) = 0) rfl h)
    subst h
    rfl
  · left
    subst c1
    have h := Option.some.inj (wb_t (c := (0 : Int32) = 0) rfl h)
    subst h
    rfl
theorem rl4 {N fu y : Nat} {I0 I : Nat → Int32} {M0 M : Nat → Nat → Int32} {sum : Int32} {R : Int32 × (Nat → Int32) × (Nat → Nat → Int32) × (Nat → Int32) × (Nat → Nat → Int32)} (hy : y < 12) (h : fX2_readRising_L4 N (fu + 1) I0 M0 I M sum (nI y) = some R) : ∃ (least most : Int32) (r1 : Int32 × (Nat → Int32) × (Nat → Nat → Int32)), (y < 11 → least = 1 ∧ most = 9999999) ∧ (y = 11 → most = 3600 - sum ∧ least = if (1 : Int32) < 3600 - sum then 3600 - sum else 1) ∧ fX9_takeNumber N I M least most = some r1 ∧ ((r1.1 = 0 ∧ R = (0, I0, M0, r1.2.1, r1.2.2)) ∨ (¬ r1.1 = 0 ∧ fX2_readRising_L4 N fu I0 (wb_um M0 0 ((((13 : Int32) * (I0 0)) + nI y) + (1 : Int32)).toNatClampNeg (sum + r1.2.1 6)) r1.2.1 r1.2.2 (sum + r1.2.1 6) (nI (y + 1)) = some R)) := by
  rw [fX2_readRising_L4.eq_2] at h
  have ty : (nI y).toInt = (y : Int) := nI_toInt (by omega)
  have h := wb_f (fun z => by
    have := (le32 (by decide : (12 : Int32).toInt = 12) ty).mp z
    omega) h
  obtain ⟨v5, e5, h⟩ := wb_v h
  have j58 : ∀ (most least : Int32), fX2_readRising_J58 N (fun q0 q1 q2 q3 q4 q5 => fX2_readRising_L4 N fu q0 q1 q2 q3 q4 q5) I0 M0 I M sum (nI y) most least = some R → ∃ r1, fX9_takeNumber N I M least most = some r1 ∧ ((r1.1 = 0 ∧ R = (0, I0, M0, r1.2.1, r1.2.2)) ∨ (¬ r1.1 = 0 ∧ fX2_readRising_L4 N fu I0 (wb_um M0 0 ((((13 : Int32) * (I0 0)) + nI y) + (1 : Int32)).toNatClampNeg (sum + r1.2.1 6)) r1.2.1 r1.2.2 (sum + r1.2.1 6) (nI (y + 1)) = some R)) := by
    intro most least h
    unfold fX2_readRising_J58 at h
    obtain ⟨r1, e1, h⟩ := wb_b h
    refine ⟨r1, e1, ?_⟩
    rcases ifr h with ⟨c, h⟩ | ⟨c, h⟩
    · exact Or.inl ⟨c, (Option.some.inj h).symm⟩
    · right
      obtain ⟨v2, e2, h⟩ := wb_v h
      obtain ⟨-, h⟩ := wb_n h
      obtain ⟨M3, e3, h⟩ := wb_v h
      obtain ⟨v4, e4, h⟩ := wb_v h
      rw [e4, nI_1, e3, e2] at h
      exact ⟨c, h⟩
  rcases ifr h with ⟨c, h⟩ | ⟨c, h⟩
  · have c := (eq32 ty (by decide : (11 : Int32).toInt = 11)).mp c
    unfold fX2_readRising_J28 fX2_readRising_J46 at h
    have h := wb_f (c := (1 : Int32) = 0) (by decide) h
    have h := wb_f (c := (1 : Int32) = 0) (by decide) h
    rw [e5] at h
    obtain ⟨r1, t⟩ := j58 _ _ h
    exact ⟨_, _, r1, fun z => by omega, fun _ => ⟨rfl, rfl⟩, t⟩
  · have c : ¬ _ := fun z => c ((eq32 ty (by decide : (11 : Int32).toInt = 11)).mpr z)
    unfold fX2_readRising_J28 fX2_readRising_J46 at h
    have h := wb_t (c := (0 : Int32) = 0) rfl h
    have h := wb_t (c := (0 : Int32) = 0) rfl h
    obtain ⟨r1, t⟩ := j58 _ _ h
    exact ⟨_, _, r1, fun _ => ⟨rfl, rfl⟩, fun z => by omega, t⟩
/-- RISING numbers of 3600 or more ahead of the 12th: the class refuses in the end -/
theorem r_bad {N : Nat} : ∀ (fu y : Nat) (I0 I : Nat → Int32) (M0 M : Nat → Nat → Int32) (sum : Int32) R, fX2_readRising_L4 N fu I0 M0 I M sum (nI y) = some R → y ≤ 11 → 3600 ≤ sum.toInt → sum.toInt ≤ 10000000 * (y : Int) → R.1 = 0 := by
  intro fu
  induction fu with
  | zero => intro y I0 I M0 M sum R h; cases (show none = some R from h)
  | succ fu ih =>
    intro y I0 I M0 M sum R h hy h1 h2
    obtain ⟨least, most, r1, l1, l2, e1, t⟩ := rl4 (by omega) h
    rcases t with ⟨-, t⟩ | ⟨c, t⟩
    · rw [t]
    · rcases tn9 e1 with q | ⟨q1, q2, q3, q4, q5, q6, r2, q7, q8⟩
      · exact absurd q c
      · by_cases hy2 : y = 11
        · exfalso
          obtain ⟨l3, l4⟩ := l2 hy2
          have n36 : (3600 : Int32).toInt = 3600 := by decide
          have v := ia_sub 3600 sum (by omega) (by omega)
          rw [n36] at v
          rw [l3, v] at q6
          rw [if_neg (fun z => by
            have := (lt32 (by decide : (1 : Int32).toInt = 1) v).mp z
            omega)] at l4
          rw [l4, show (1 : Int32).toInt = 1 from by decide] at q5
          omega
        · obtain ⟨l3, l4⟩ := l1 (by omega)
          rw [l3, show (1 : Int32).toInt = 1 from by decide] at q5
          rw [l4, show (9999999 : Int32).toInt = 9999999 from by decide] at q6
          rw [q4] at t
          have v := ia_add sum (I 5) (by omega) (by omega)
          exact ih (y + 1) _ _ _ _ _ R t (by omega) (by omega) (by omega)
theorem n155 {N : Nat} {J : Nat → Int32} {L : Int64} {K : Nat → Nat → Int32} {S : (Nat → Int32) × Int64 × (Nat → Nat → Int32)} (j4 : ¬ J 4 = 0) (h : fX12_readsClimate_J155 N J L K = some S) : S = (J, L, K) := by
  unfold fX12_readsClimate_J155 at h
  rw [good2 j4, Option.bind_some] at h
  exact (Option.some.inj (wb_t (c := (0 : Int32) = 0) rfl h)).symm
theorem n43 {N fv : Nat} {J : Nat → Int32} {L : Int64} {K : Nat → Nat → Int32} {a b : Int32} {S : (Nat → Int32) × Int64 × (Nat → Nat → Int32)} (j4 : ¬ J 4 = 0) (h : fX12_readsClimate_L43 N fv J L K a b = some S) : S = (J, L, K) := by
  cases fv with
  | zero => cases (show none = some S from h)
  | succ fv =>
    rw [fX12_readsClimate_L43.eq_2] at h
    rcases ifr h with ⟨-, h⟩ | ⟨-, h⟩
    · exact n155 j4 h
    · rw [good2 j4, Option.bind_some] at h
      exact n155 j4 (wb_t (c := (0 : Int32) = 0) rfl h)
theorem rc43 {N fv y : Nat} {J : Nat → Int32} {L : Int64} {K : Nat → Nat → Int32} {sum : Int32} {S : (Nat → Int32) × Int64 × (Nat → Nat → Int32)} (hy : y < 12) (j4 : J 4 = 0) (g : fX12_readsClimate_L43 N (fv + 1) J L K sum (nI y) = some S) : (y = 11 ∧ J 8 = 2 ∧ ¬ (7 : Int32) < J 10 ∧ ¬ J 11 = 3600 - sum ∧ ¬ S.1 4 = 0) ∨ ((y = 11 → J 8 = 2 → ¬ (7 : Int32) < J 10 → J 11 = 3600 - sum) ∧ ∃ r6, fX12_number N J L K 1 3600 = some r6 ∧ ((¬ r6.2.1 4 = 0 ∧ ¬ S.1 4 = 0) ∨ (r6.2.1 4 = 0 ∧ fX12_readsClimate_L43 N fv r6.2.1 r6.2.2.1 (wb_um r6.2.2.2 13 (((12 : Int32) * (r6.2.1 13)) + nI y).toNatClampNeg r6.1) (sum + r6.1) (nI (y + 1)) = some S))) := by
  rw [fX12_readsClimate_L43.eq_2] at g
  have ty : (nI y).toInt = (y : Int) := nI_toInt (by omega)
  have g := wb_f (fun z => by
    have := (le32 (by decide : (12 : Int32).toInt = 12) ty).mp z
    omega) g
  rw [good1 j4, Option.bind_some] at g
  have g := wb_f (c := (1 : Int32) = 0) (by decide) g
  obtain ⟨v16, e16, g⟩ := wb_v g
  have j111 : ∀ (J : Nat → Int32) (L : Int64) (K : Nat → Nat → Int32), fX12_readsClimate_J111 N (fun q0 q1 q2 q3 q4 => fX12_readsClimate_L43 N fv q0 q1 q2 q3 q4) J L K sum (nI y) = some S → ∃ r6, fX12_number N J L K 1 3600 = some r6 ∧ ((¬ r6.2.1 4 = 0 ∧ S = (r6.2.1, r6.2.2.1, r6.2.2.2)) ∨ (r6.2.1 4 = 0 ∧ fX12_readsClimate_L43 N fv r6.2.1 r6.2.2.1 (wb_um r6.2.2.2 13 (((12 : Int32) * (r6.2.1 13)) + nI y).toNatClampNeg r6.1) (sum + r6.1) (nI (y + 1)) = some S)) := by
    intro J L K g
    unfold fX12_readsClimate_J111 at g
    obtain ⟨r6, e6, g⟩ := wb_b g
    refine ⟨r6, e6, ?_⟩
    obtain ⟨v7, e7, g⟩ := wb_v g
    obtain ⟨r8, e8, g⟩ := wb_b g
    rcases good0 e8 with ⟨q, q2⟩ | ⟨q, q2⟩
    · right
      have g := wb_f (by rw [q]; decide) g
      obtain ⟨-, g⟩ := wb_n g
      obtain ⟨K11, e11, g⟩ := wb_v g
      obtain ⟨v12, e12, g⟩ := wb_v g
      obtain ⟨v13, e13, g⟩ := wb_v g
      rw [e13, nI_1, e12, e11, e7] at g
      exact ⟨q2, g⟩
    · left
      have g := wb_t q g
      obtain ⟨v12, e12, g⟩ := wb_v g
      obtain ⟨v13, e13, g⟩ := wb_v g
      exact ⟨q2, n43 q2 g⟩
  have j97 : fX12_readsClimate_J97 N (fun q0 q1 q2 q3 q4 => fX12_readsClimate_L43 N fv q0 q1 q2 q3 q4) J L K sum (nI y) = some S → ∃ r6, fX12_number N J L K 1 3600 = some r6 ∧ ((¬ r6.2.1 4 = 0 ∧ ¬ S.1 4 = 0) ∨ (r6.2.1 4 = 0 ∧ fX12_readsClimate_L43 N fv r6.2.1 r6.2.2.1 (wb_um r6.2.2.2 13 (((12 : Int32) * (r6.2.1 13)) + nI y).toNatClampNeg r6.1) (sum + r6.1) (nI (y + 1)) = some S)) := by
    intro g
    unfold fX12_readsClimate_J97 fX12_readsClimate_J98 at g
    have g := wb_f (c := (0 : Int32) = -1) (by decide) g
    obtain ⟨r6, e6, t⟩ := j111 J L K g
    refine ⟨r6, e6, ?_⟩
    rcases t with ⟨t1, t2⟩ | t
    · left
      refine ⟨t1, ?_⟩
      rw [t2]; exact t1
    · exact Or.inr t
  rcases ifr g with ⟨c, g⟩ | ⟨c, g⟩
  · have c := (eq32 ty (by decide : (11 : Int32).toInt = 11)).mp c
    rcases ifr g with ⟨c2, g⟩ | ⟨c2, g⟩
    · rcases ifr g with ⟨c3, g⟩ | ⟨c3, g⟩
      · exact Or.inr ⟨fun _ _ z => absurd c3 z, j97 g⟩
      · rcases ifr g with ⟨c4, g⟩ | ⟨c4, g⟩
        · exact Or.inr ⟨fun _ _ _ => c4.trans e16, j97 g⟩
        · left
          refine ⟨by omega, c2, c3, fun z => c4 (z.trans e16.symm), ?_⟩
          unfold fX12_readsClimate_J98 at g
          have g := wb_t (c := (-1 : Int32) = -1) rfl g
          obtain ⟨r14, e14, g⟩ := wb_b g
          have e14 := wrg0 j4 e14
          subst e14
          obtain ⟨r6, e6, t⟩ := j111 _ _ _ g
          have e6 := num_n (J := upd (upd J 4 2) 5 (J 9)) (show ¬ (2 : Int32) = 0 by decide) e6
          subst e6
          rcases t with ⟨t1, t2⟩ | ⟨t1, t2⟩
          · rw [t2]; exact t1
          · exact absurd t1 (show ¬ (2 : Int32) = 0 by decide)
    · exact Or.inr ⟨fun _ z => absurd z c2, j97 g⟩
  · have c : ¬ _ := fun z => c ((eq32 ty (by decide : (11 : Int32).toInt = 11)).mpr z)
    exact Or.inr ⟨fun z => by omega, j97 g⟩
/-- the RISING numbers of both -/
theorem risl {N N2 : Nat} {M : Nat → Nat → Int32} {c : Nat} (hc : c < 7) : ∀ (fu fv y : Nat) (I0 I : Nat → Int32) (M0 : Nat → Nat → Int32) (J : Nat → Int32) (L : Int64) (K : Nat → Nat → Int32) (sum : Int32) R S, fX2_readRising_L4 N fu I0 M0 I M sum (nI y) = some R → fX12_readsClimate_L43 N2 fv J L K sum (nI y) = some S → y ≤ 12 → TK I J L M K → J 4 = 0 → I0 0 = nI c → J 13 = nI c → HC (M0 0) (c : Int) (K 13) → (∀ s, s ≤ y → (M0 0 (13 * c + s)).toInt = psm (K 13) (12 * c) s) → sum.toInt = psm (K 13) (12 * c) y → 0 ≤ sum.toInt → sum.toInt ≤ 3600 * (y : Int) →
    (R.1 = 0 ∧ ¬ S.1 4 = 0) ∨ (R.1 = 1 ∧ TK R.2.2.2.1 S.1 S.2.1 M S.2.2 ∧ S.1 4 = 0 ∧ S.1 13 = nI (c + 1) ∧ R.2.2.2.2 = M ∧ R.2.1 = I0 ∧ HC (R.2.2.1 0) ((c : Int) + 1) (S.2.2 13) ∧ (I 3).toInt ≤ (R.2.2.2.1 3).toInt) := by
  intro fu
  induction fu with
  | zero => intro fv y I0 I M0 J L K sum R S h; cases (show none = some R from h)
  | succ fu ih =>
    intro fv y I0 I M0 J L K sum R S h g hy tk j4 hi hj hcl hs hsum hs0 hs1
    cases fv with
    | zero => cases (show none = some S from g)
    | succ fv =>
      have ty : (nI y).toInt = (y : Int) := nI_toInt (by omega)
      by_cases hy12 : y = 12
      · right
        rw [fX2_readRising_L4.eq_2] at h
        rw [fX12_readsClimate_L43.eq_2] at g
        have c12 : (12 : Int32) ≤ nI y := (le32 (by decide : (12 : Int32).toInt = 12) ty).mpr (by omega)
        have h := Option.some.inj (wb_t c12 h)
        subst h
        have g := wb_t c12 g
        unfold fX12_readsClimate_J155 at g
        rw [good1 j4, Option.bind_some] at g
        have g := wb_f (c := (1 : Int32) = 0) (by decide) g
        obtain ⟨J2, e2, g⟩ := wb_v g
        have g := Option.some.inj g
        subst g
        have e13 : J 13 + 1 = nI (c + 1) := by rw [hj, nI_1]
        rw [e13] at e2
        refine ⟨rfl, ?_, ?_, ?_, rfl, rfl, ?_, Int.le_refl _⟩
        · show TK I J2 L M K
          rw [e2]; exact tk
        · show J2 4 = 0
          rw [e2]; exact j4
        · show J2 13 = _
          rw [e2]; rfl
        · refine ⟨hcl.1, fun k hk s hs2 => ?_⟩
          by_cases hk2 : k = c
          · subst hk2
            exact hs s (by omega)
          · exact hcl.2 k (by omega) s hs2
      · obtain ⟨least, most, r1, l1, l2, e1, t⟩ := rl4 (by omega) h
        have tk2 := tk
        obtain ⟨q, b1, b2, b3, b4, b5, b6, b7⟩ := tk2
        have e10 : I 3 - I 2 = J 10 := by rw [b5, q.2.1, b1]
        have n36 : (3600 : Int32).toInt = 3600 := by decide
        have n1 : (1 : Int32).toInt = 1 := by decide
        have v := ia_sub 3600 sum (by omega) (by omega)
        rw [n36] at v
        rcases rc43 (by omega) j4 g with ⟨g1, g2, g3, g4, g5⟩ | ⟨g1, r6, f6, u⟩
        · left
          refine ⟨?_, g5⟩
          rcases t with ⟨-, t⟩ | ⟨cc, t⟩
          · rw [t]
          · exfalso
            rcases tn9 e1 with q | ⟨q1, q2, q3, q4, q5, q6, -⟩
            · exact absurd q cc
            · obtain ⟨l3, l4⟩ := l2 g1
              apply g4
              apply t32
              rw [← b6 q2, v]
              rw [l3, v] at q6
              rw [l4] at q5
              by_cases z : (1 : Int32) < 3600 - sum
              · rw [if_pos z, v] at q5
                omega
              · rw [if_neg z, n1] at q5
                have z : ¬ _ := fun w => z ((lt32 n1 v).mpr w)
                omega
        · rcases t with ⟨t0, t⟩ | ⟨cc, t⟩
          · left
            refine ⟨by rw [t], ?_⟩
            rcases u with ⟨-, u⟩ | ⟨u0, -⟩
            · exact u
            · exfalso
              rcases numr j4 f6 with ⟨d1, d2, d3, d4, r3, d5, d6⟩ | ⟨d1, d2, d3⟩ | ⟨d1, d2⟩
              · have d3 : ¬ _ := fun z => d3 ((lt32 (a := J 11) rfl n1).mpr z)
                have d4 := (le32 (a := J 11) rfl n36).mp d4
                have i4 := b2.trans d1
                have e5 := b6 i4
                -- the class's number is as told too
                have hr : ∀ R', fX9_takeNumber N I M least most = some R' → ¬ R'.1 = 0 := by
                  intro R' h'
                  unfold fX9_takeNumber at h'
                  obtain ⟨r, e, h'⟩ := wb_b h'
                  rcases hold e with ⟨c1, -⟩ | ⟨-, -, c3⟩ | ⟨-, c2⟩
                  · subst c1
                    have h' := wb_f (c := (1 : Int32) = 0) (by decide) h'
                    obtain ⟨r2, -, h'⟩ := wb_b h'
                    have h' := Option.some.inj h'
                    subst h'
                    show ¬ (1 : Int32) = 0
                    decide
                  · exfalso
                    rw [e10] at c3
                    by_cases hy11 : y = 11
                    · obtain ⟨l3, l4⟩ := l2 hy11
                      have e11 := g1 hy11 d1 d2
                      have e11t : (J 11).toInt = 3600 - sum.toInt := by rw [e11, v]
                      rcases c3 with c3 | c3 | c3
                      · exact d2 c3
                      · have c3 := (lt32 (a := I 5) rfl rfl).mp c3
                        rw [e5, l4] at c3
                        by_cases z : (1 : Int32) < 3600 - sum
                        · rw [if_pos z, v] at c3
                          omega
                        · rw [if_neg z, n1] at c3
                          omega
                      · exact c3 ((le32 (a := I 5) rfl rfl).mpr (by rw [e5, l3, v]; omega))
                    · obtain ⟨l3, l4⟩ := l1 (by omega)
                      rcases c3 with c3 | c3 | c3
                      · exact d2 c3
                      · have c3 := (lt32 (a := I 5) rfl rfl).mp c3
                        rw [e5, l3, n1] at c3
                        omega
                      · exact c3 ((le32 (a := I 5) rfl rfl).mpr (by rw [e5, l4, show (9999999 : Int32).toInt = 9999999 from by decide]; omega))
                  · exact absurd i4 c2
                exact hr r1 e1 t0
              · rw [d3] at u0
                exact absurd u0 (show ¬ (2 : Int32) = 0 by decide)
              · rw [d2] at u0
                exact absurd u0 (show ¬ (1 : Int32) = 0 by decide)
          · rcases tn9 e1 with q' | ⟨q1, q2, q3, q4, q5, q6, r2, q7, q8⟩
            · exact absurd q' cc
            · have e5 := b6 q2
              rcases numr j4 f6 with ⟨d1, d2, d3, d4, r3, d5, d6⟩ | ⟨d1, d2, d3⟩ | ⟨d1, d2⟩
              · have d3 : ¬ _ := fun z => d3 ((lt32 (a := J 11) rfl n1).mpr z)
                have d4 := (le32 (a := J 11) rfl n36).mp d4
                subst d6
                obtain ⟨t1, t2, t3, t4, t5, t6, t7⟩ := st_all q7 d5 (tk.w6 _) j4
                subst q8
                rcases u with ⟨u0, -⟩ | ⟨u0, u⟩
                · exact absurd t2 u0
                · have t : fX2_readRising_L4 N fu I0 (wb_um M0 0 ((((13 : Int32) * (I0 0)) + nI y) + (1 : Int32)).toNatClampNeg (sum + r2.1 6)) r2.1 r2.2 (sum + r2.1 6) (nI (y + 1)) = some R := t
                  have u : fX12_readsClimate_L43 N2 fv r3.1 r3.2.1 (wb_um r3.2.2 13 (((12 : Int32) * (r3.1 13)) + nI y).toNatClampNeg (J 11)) (sum + J 11) (nI (y + 1)) = some S := u
                  have q4 : r2.1 6 = I 5 := q4
                  have r13 : r3.1 13 = nI c := ((fr_fX12_steps d5).1 13 (by decide)).trans hj
                  rw [q4, e5, t3, hi] at t
                  rw [t4, r13] at u
                  have tc : (nI c).toInt = (c : Int) := nI_toInt (by omega)
                  have n13 : (13 : Int32).toInt = 13 := by decide
                  have n12 : (12 : Int32).toInt = 12 := by decide
                  have x1 := ia_mul 13 13 n13 (nI c) (by omega) (by omega)
                  have x2 := ia_add ((13 : Int32) * nI c) (nI y) (by omega) (by omega)
                  have x3 := ia_add ((13 : Int32) * nI c + nI y) 1 (by omega) (by omega)
                  have x4 := ia_mul 12 12 n12 (nI c) (by omega) (by omega)
                  have x5 := ia_add ((12 : Int32) * nI c) (nI y) (by omega) (by omega)
                  have i1 : ((13 : Int32) * nI c + nI y + 1).toNatClampNeg = 13 * c + (y + 1) := by rw [cl32]; omega
                  have i2 : ((12 : Int32) * nI c + nI y).toNatClampNeg = 12 * c + y := by rw [cl32]; omega
                  rw [i1] at t
                  rw [i2] at u
                  have vs := ia_add sum (J 11) (by omega) (by omega)
                  have kcg : ∀ o n, o + n ≤ 12 * c + y → psm (upd (K 13) (12 * c + y) (J 11)) o n = psm (K 13) o n := by
                    intro o n hon
                    refine psm_cg n (fun i hi => ?_)
                    unfold upd
                    rw [if_neg (by omega)]
                  have kst : psm (upd (K 13) (12 * c + y) (J 11)) (12 * c) (y + 1) = psm (K 13) (12 * c) y + (J 11).toInt := by
                    show psm _ _ y + (upd (K 13) (12 * c + y) (J 11) (12 * c + y)).toInt = _
                    rw [kcg _ _ (Nat.le_refl _)]
                    unfold upd
                    rw [if_pos rfl]
                  have res := ih fv (y + 1) I0 r2.1 (wb_um M0 0 (13 * c + (y + 1)) (sum + J 11)) r3.1 r3.2.1 (wb_um K 13 (12 * c + y) (J 11)) (sum + J 11) R S t u (by omega) (t1.cgK rfl) t2 hi r13 (by
                    show HC (upd (M0 0) (13 * c + (y + 1)) (sum + J 11)) (c : Int) (upd (K 13) (12 * c + y) (J 11))
                    refine ⟨fun k hk => ?_, fun k hk s hs2 => ?_⟩
                    · unfold upd
                      rw [if_neg (by omega)]
                      exact hcl.1 k hk
                    · rw [kcg _ _ (by omega)]
                      unfold upd
                      rw [if_neg (by omega)]
                      exact hcl.2 k hk s hs2) (by
                    intro s hs2
                    show (upd (M0 0) (13 * c + (y + 1)) (sum + J 11) (13 * c + s)).toInt = psm (upd (K 13) (12 * c + y) (J 11)) (12 * c) s
                    by_cases hsy : s = y + 1
                    · subst hsy
                      rw [kst]
                      unfold upd
                      rw [if_pos rfl]
                      omega
                    · rw [kcg _ _ (by omega)]
                      unfold upd
                      rw [if_neg (by omega)]
                      exact hs s (by omega)) (by
                    show (sum + J 11).toInt = psm (upd (K 13) (12 * c + y) (J 11)) (12 * c) (y + 1)
                    rw [kst]; omega) (by omega) (by omega)
                  rcases res with w | ⟨w1, w3, w4, w5, w6, w7, w8, w9⟩
                  · exact Or.inl w
                  · refine Or.inr ⟨w1, w3, w4, w5, w6, w7, w8, ?_⟩
                    have y1 := t1.2.2.2.2.1
                    have y2 : (I 3).toInt ≤ (r2.1 2).toInt := t5
                    omega
              · left
                have u0 : ¬ S.1 4 = 0 := by
                  rcases u with ⟨-, u⟩ | ⟨u0, -⟩
                  · exact u
                  · rw [d3] at u0
                    exact absurd u0 (show ¬ (2 : Int32) = 0 by decide)
                refine ⟨?_, u0⟩
                -- the class took a number that is too much for the reference
                have e5t : (I 5).toInt = (J 11).toInt := by rw [e5]
                rcases d2 with d2 | d2 | d2
                · rw [← e10] at d2
                  exact absurd d2 q3
                · exfalso
                  have d2 := (lt32 (a := J 11) rfl n1).mp d2
                  by_cases hy11 : y = 11
                  · obtain ⟨l3, l4⟩ := l2 hy11
                    rw [l4] at q5
                    by_cases z : (1 : Int32) < 3600 - sum
                    · rw [if_pos z, v] at q5
                      have z := (lt32 n1 v).mp z
                      omega
                    · rw [if_neg z, n1] at q5
                      omega
                  · obtain ⟨l3, l4⟩ := l1 (by omega)
                    rw [l3, n1] at q5
                    omega
                · have d2 : ¬ _ := fun z => d2 ((le32 (a := J 11) rfl n36).mpr z)
                  by_cases hy11 : y = 11
                  · exfalso
                    obtain ⟨l3, l4⟩ := l2 hy11
                    rw [l3, v] at q6
                    omega
                  · obtain ⟨l3, l4⟩ := l1 (by omega)
                    rw [l4, show (9999999 : Int32).toInt = 9999999 from by decide] at q6
                    rw [q4] at t
                    have vs := ia_add sum (I 5) (by omega) (by omega)
                    exact r_bad fu (y + 1) _ _ _ _ _ R t (by omega) (by omega) (by omega)
              · exact absurd (b2.symm.trans q2) d1
theorem n14c {N : Nat} {J : Nat → Int32} {L : Int64} {K : Nat → Nat → Int32} {S : (Nat → Int32) × Int64 × (Nat → Nat → Int32)} (j4 : ¬ J 4 = 0) (h : fX12_readsClimate_J14 N J L K = some S) : S = (J, L, K) := by
  unfold fX12_readsClimate_J14 at h
  rw [good2 j4, Option.bind_some] at h
  exact (Option.some.inj (wb_t (c := (0 : Int32) = 0) rfl h)).symm
theorem clil {N N2 : Nat} {M K M0 : Nat → Nat → Int32} {I J I0 : Nat → Int32} {L : Int64} {R : Int32 × (Nat → Int32) × (Nat → Nat → Int32) × (Nat → Int32) × (Nat → Nat → Int32)} {S S2 : (Nat → Int32) × Int64 × (Nat → Nat → Int32)} (tk : TK I J L M K) (j4 : J 4 = 0) (hn : I0 0 = J 13) (h0 : 0 ≤ (J 13).toInt) (h7 : (J 13).toInt ≤ 7) (d : HC (M0 0) (J 13).toInt (K 13)) (h : fX2_readClimate N I0 M0 I M = some R) (g : fX12_readsClimate N2 J L K = some S) (g2 : (if S.1 8 = 3 then fX12_need N2 S.1 S.2.1 S.2.2 1 else fX12_need N2 S.1 S.2.1 S.2.2 0) = some S2) :
    (R.1 = 0 ∧ ¬ S2.1 4 = 0) ∨ (R.1 = 1 ∧ LnE I M R.2.2.2.1 R.2.2.2.2 S2 ∧ S2.2.2 = S.2.2 ∧ R.2.1 0 = S.1 13 ∧ S2.1 13 = S.1 13 ∧ (S.1 13).toInt ≤ 7 ∧ 0 ≤ (S.1 13).toInt ∧ HC (R.2.2.1 0) (S.1 13).toInt (S.2.2 13)) := by
  unfold fX2_readClimate at h
  unfold fX12_readsClimate at g
  rcases ifr h with ⟨c, h⟩ | ⟨c, h⟩
  · have c := (lt32 (by rw [hn]) (by decide : (7 : Int32).toInt = 7)).mp c
    have g := wb_f (fun z => by
      have := (eq32 (a := J 13) rfl (by decide : (7 : Int32).toInt = 7)).mp z
      omega) g
    unfold fX12_readsClimate_J14 at g
    rw [good1 j4, Option.bind_some] at g
    have g := wb_f (c := (1 : Int32) = 0) (by decide) g
    obtain ⟨r1, e1, h⟩ := wb_b h
    obtain ⟨s4, f4, g⟩ := wb_b g
    obtain ⟨t1, t2, t3, t4, t5, t6, t7⟩ := st_all e1 f4 tk.1 j4
    rw [t3] at h
    rw [t4] at g
    obtain ⟨r2, e2, h⟩ := wb_b h
    obtain ⟨s5, f5, g⟩ := wb_b g
    have j13 : s4.1 13 = J 13 := (fr_fX12_steps f4).1 13 (by decide)
    have f5' := f5
    rw [j13] at f5
    rw [hn] at e2
    rcases num_tk t1 t2 e2 f5 with ⟨c1, c2, c3, c4, c5, c6, c7, c8, c9, c10⟩ | ⟨c1, c2, c3, c4⟩
    · have h := wb_f (by rw [c1]; decide) h
      rw [c7] at h
      rw [c8] at g
      obtain ⟨r3, e3, h⟩ := wb_b h
      unfold fX2_readRising at e3
      have k13 : s5.2.1 13 = J 13 := ((fr_fX12_number f5).1 13 (by decide)).trans j13
      have ec : J 13 = nI (J 13).toInt.toNat := by
        apply t32
        rw [nI_toInt (by omega)]
        omega
      have ecz : ((J 13).toInt.toNat : Int) = (J 13).toInt := by omega
      have res := risl (M := M) (c := (J 13).toInt.toNat) (by omega) N N2 0 I0 r2.2.1 M0 s5.2.1 s5.2.2.1 K 0 r3 S e3 g (by omega) c2 c3 (hn.trans ec) (k13.trans ec) (by rw [ecz]; exact d) (by
        intro s hs
        have hs0 : s = 0 := by omega
        subst hs0
        rw [Nat.add_zero]
        exact d.1 _ (by omega)) (show (0 : Int32).toInt = 0 from by decide) (by decide) (by decide)
      rcases res with ⟨w1, w2⟩ | ⟨w1, w3, w4, w5, w6, w7, w8, w9⟩
      · have h := Option.some.inj (wb_t w1 h)
        subst h
        exact Or.inl ⟨rfl, stop_n w2 g2⟩
      · have h := wb_f (by rw [w1]; decide) h
        obtain ⟨I4, eI4, h⟩ := wb_v h
        obtain ⟨r5, e5, h⟩ := wb_b h
        have h := Option.some.inj (wb_y h).2
        subst h
        have lo : LO I M (1 : Int32) r3.2.2.2.1 r3.2.2.2.2 S := by
          refine ⟨w3, w4, w6, ?_⟩
          have y1 := t1.2.2.2.2.1
          have y2 := c2.2.2.2.2.1
          omega
        rcases stopl lo e5 g2 with ⟨x1, x2⟩ | ⟨x1, x2, x3⟩
        · exact Or.inl ⟨x1, x2⟩
        · have tt : (nI ((J 13).toInt.toNat + 1)).toInt = (J 13).toInt + 1 := by
            rw [nI_toInt (by omega)]; omega
          refine Or.inr ⟨x1, x2, x3, ?_, ?_, ?_, ?_, ?_⟩
          · show I4 0 = S.1 13
            rw [eI4, w5, w7]
            show I0 0 + 1 = _
            rw [hn]
            apply t32
            rw [inc32 (by omega), tt]
          · rcases ifr g2 with ⟨-, g2⟩ | ⟨-, g2⟩
            · exact (fr_fX12_need g2).1 13 (by decide)
            · exact (fr_fX12_need g2).1 13 (by decide)
          · rw [w5, tt]; omega
          · rw [w5, tt]; omega
          · rw [w5, tt]
            show HC (r3.2.2.1 0) _ _
            rw [← ecz]
            exact w8
    · left
      have h := Option.some.inj (wb_t c1 h)
      subst h
      refine ⟨rfl, stop_n ?_ g2⟩
      rw [n43 c4.2 g]
      exact c4.2
  · left
    have c : ¬ _ := fun z => c ((lt32 (by rw [hn]) (by decide : (7 : Int32).toInt = 7)).mpr z)
    obtain ⟨r6, e6, h⟩ := wb_b h
    have e6 := refu e6
    subst e6
    have h := Option.some.inj (wb_y h).2
    subst h
    refine ⟨rfl, stop_n ?_ g2⟩
    have g := wb_t ((eq32 (a := J 13) rfl (by decide : (7 : Int32).toInt = 7)).mpr (by omega)) g
    obtain ⟨s, f, g⟩ := wb_b g
    have f := wrg0 j4 f
    subst f
    have g := n14c (J := upd (upd J 4 2) 5 (J 9)) (show ¬ (2 : Int32) = 0 by decide) g
    subst g
    show ¬ (2 : Int32) = 0
    decide
/-- what a HOUSE told, as it is being read, of both -/
def HN (i : Nat → Int32) (m : Nat → Nat → Int32) (J : Nat → Int32) (K : Nat → Nat → Int32) : Prop := i 0 = J 13 ∧ i 1 = J 14 ∧ (0 ≤ (J 13).toInt ∧ (J 13).toInt ≤ 7) ∧ (0 ≤ (J 14).toInt ∧ (J 14).toInt ≤ 30) ∧ H4 m K ∧ HC (m 4) (J 13).toInt (K 13) ∧ HH (m 5) (J 14).toInt (K 15) (K 14)
def FrK (J J' : Nat → Int32) (K K' : Nat → Nat → Int32) : Prop := (∀ k, k < 4 → J' k = J k) ∧ ∀ k, k < 9 → K' k = K k
theorem FrK.tr {J J' J'' : Nat → Int32} {K K' K'' : Nat → Nat → Int32} (h : FrK J' J'' K' K'') (g : FrK J J' K K') : FrK J J'' K K'' := ⟨fun k hk => (h.1 k hk).trans (g.1 k hk), fun k hk => (h.2 k hk).trans (g.2 k hk)⟩
theorem FrK.of {J J' : Nat → Int32} {K K' : Nat → Nat → Int32} {V W : List Nat} (h : Eqo V J' J ∧ Eqo W K' K) (hv : ∀ k, k < 4 → ¬ k ∈ V) (hw : ∀ k, k < 9 → ¬ k ∈ W) : FrK J J' K K' := ⟨fun k hk => h.1 k (hv k hk), fun k hk => h.2 k (hw k hk)⟩
theorem need_fr {N : Nat} {S S2 : (Nat → Int32) × Int64 × (Nat → Nat → Int32)} (g : (if S.1 8 = 3 then fX12_need N S.1 S.2.1 S.2.2 1 else fX12_need N S.1 S.2.1 S.2.2 0) = some S2) : Eqo fwI_X12_need S2.1 S.1 ∧ Eqo fwM_X12_need S2.2.2 S.2.2 := by
  rcases ifr g with ⟨-, g⟩ | ⟨-, g⟩
  · exact fr_fX12_need g
  · exact fr_fX12_need g
theorem j183 {N : Nat} {x : Int32} {gg : (Nat → Int32) → Int64 → (Nat → Nat → Int32) → Option (Int32 × (Nat → Int32) × Int64 × (Nat → Nat → Int32))} {S : (Nat → Int32) × Int64 × (Nat → Nat → Int32)} {T : Int32 × (Nat → Int32) × Int64 × (Nat → Nat → Int32)} (h : fX12_house_J183 N x gg S.1 S.2.1 S.2.2 = some T) : ∃ S2, (if S.1 8 = 3 then fX12_need N S.1 S.2.1 S.2.2 1 else fX12_need N S.1 S.2.1 S.2.2 0) = some S2 ∧ gg S2.1 S2.2.1 S2.2.2 = some T := by
  unfold fX12_house_J183 at h
  rcases ifr h with ⟨c, h⟩ | ⟨c, h⟩
  · obtain ⟨r, e, h⟩ := wb_b h
    exact ⟨r, by rw [if_pos c]; exact e, h⟩
  · obtain ⟨r, e, h⟩ := wb_b h
    exact ⟨r, by rw [if_neg c]; exact e, h⟩
/-- a refused LINE ends both -/
theorem l_end {N fu y : Nat} {I0 I : Nat → Int32} {M0 M : Nat → Nat → Int32} {v : Int32} {R : Int32 × (Nat → Int32) × (Nat → Nat → Int32) × (Nat → Int32) × (Nat → Nat → Int32)} (hv : v = 0) (h : fX5_readLines_L4 N fu I0 M0 I M v (nI y) = some R) : R = (0, I0, M0, I, M) := by
  subst hv
  cases fu with
  | zero => cases (show none = some R from h)
  | succ fu =>
    rw [fX5_readLines_L4.eq_2] at h
    rcases ifr h with ⟨-, h⟩ | ⟨-, h⟩
    · exact (Option.some.inj (wb_y h).2).symm
    · have h := wb_t (c := (0 : Int32) = 0) rfl h
      exact (Option.some.inj (wb_y h).2).symm
theorem r_end {N fv : Nat} {x : Int32} {J : Nat → Int32} {L : Int64} {K : Nat → Nat → Int32} {T : Int32 × (Nat → Int32) × Int64 × (Nat → Nat → Int32)} (j4 : ¬ J 4 = 0) (h : fX12_house_L120 N x fv J L K = some T) : fX12_house_J203 N x J L K = some T := by
  cases fv with
  | zero => cases (show none = some T from h)
  | succ fv =>
    rw [fX12_house_L120.eq_2] at h
    rw [good2 j4, Option.bind_some] at h
    exact wb_t (c := (0 : Int32) = 0) rfl h
theorem linl {N N2 : Nat} {x : Int32} {M : Nat → Nat → Int32} : ∀ (fu fv y : Nat) (I0 : Nat → Int32) (M0 : Nat → Nat → Int32) (I J : Nat → Int32) (L : Int64) (K : Nat → Nat → Int32) R T, fX5_readLines_L4 N fu I0 M0 I M 1 (nI y) = some R → fX12_house_L120 N2 x fv J L K = some T → TK I J L M K → J 4 = 0 → HN I0 M0 J K → PsT I → (y : Int) ≤ (I 2).toInt → y ≤ 600 →
    ∃ J' L' K', fX12_house_J203 N2 x J' L' K' = some T ∧ R.2.2.2.2 = M ∧ FrK J J' K K' ∧ ((R.1 = 1 ∧ J' 4 = 0 ∧ HN R.2.1 R.2.2.1 J' K') ∨ (R.1 = 0 ∧ ¬ J' 4 = 0)) := by
  intro fu
  induction fu with
  | zero => intro fv y I0 M0 I J L K R T h; cases (show none = some R from h)
  | succ fu ih =>
    intro fv y I0 M0 I J L K R T h g tk j4 hn ps hy hy6
    cases fv with
    | zero => cases (show none = some T from g)
    | succ fv =>
      rw [fX5_readLines_L4.eq_2] at h
      rw [fX12_house_L120.eq_2] at g
      rw [good1 j4, Option.bind_some] at g
      have g := wb_f (c := (1 : Int32) = 0) (by decide) g
      have tk2 := tk
      obtain ⟨q, b1, b2, b3, b4, b5, b6, b7⟩ := tk2
      have q4 := q.2.2.2.1
      have q5 := q.2.2.2.2.1
      have ty : (nI y).toInt = (y : Int) := nI_toInt (by omega)
      have fin : I 4 = 0 → R = (1, I0, M0, I, M) → ∃ J' L' K', fX12_house_J203 N2 x J' L' K' = some T ∧ R.2.2.2.2 = M ∧ FrK J J' K K' ∧ ((R.1 = 1 ∧ J' 4 = 0 ∧ HN R.2.1 R.2.2.1 J' K') ∨ (R.1 = 0 ∧ ¬ J' 4 = 0)) := by
        intro h0 eR
        subst eR
        have g := wb_t (b2.symm.trans h0) g
        exact ⟨J, L, K, g, rfl, ⟨fun _ _ => rfl, fun _ _ => rfl⟩, Or.inl ⟨rfl, j4, hn⟩⟩
      rcases ifr h with ⟨c, h⟩ | ⟨c, h⟩
      · have c := (le32 (x := 600) (by decide) ty).mp c
        refine fin ?_ (Option.some.inj (wb_y h).2).symm
        refine Decidable.byContradiction (fun z => ?_)
        have := ps z
        omega
      · have c : ¬ _ := fun z => c ((le32 (x := 600) (by decide) ty).mpr z)
        have h := wb_f (c := (1 : Int32) = 0) (by decide) h
        obtain ⟨r1, e1, h⟩ := wb_b h
        rcases atEnd e1 with ⟨c1, c2⟩ | ⟨c1, c2⟩
        · have h := wb_f (by rw [c1]; decide) h
          exact fin c2 (Option.some.inj (wb_y h).2).symm
        · have h := wb_t c1 h
          have g := wb_f (fun z => c2 (b2.trans z)) g
          have ps2 := ps c2
          obtain ⟨s40, f40, g⟩ := wb_b g
          have kk := kw tk f40
          obtain ⟨n1, n2, n3, n4, n5, n6, n7⟩ := hn
          -- what is left to do behind a LINE
          have step : ∀ (RI0 : Nat → Int32) (RM0 : Nat → Nat → Int32) (RI : Nat → Int32) (RM : Nat → Nat → Int32) (v v7 : Int32) (S S2 : (Nat → Int32) × Int64 × (Nat → Nat → Int32)), v7 = nI y + 1 → fX5_readLines_L4 N fu RI0 RM0 RI RM v v7 = some R → fX12_house_L120 N2 x fv S2.1 S2.2.1 S2.2.2 = some T → FrK J S2.1 K S2.2.2 → RM = M → ((v = 0 ∧ ¬ S2.1 4 = 0) ∨ (v = 1 ∧ LnE I M RI RM S2 ∧ HN RI0 RM0 S2.1 S2.2.2)) → ∃ J' L' K', fX12_house_J203 N2 x J' L' K' = some T ∧ R.2.2.2.2 = M ∧ FrK J J' K K' ∧ ((R.1 = 1 ∧ J' 4 = 0 ∧ HN R.2.1 R.2.2.1 J' K') ∨ (R.1 = 0 ∧ ¬ J' 4 = 0)) := by
            intro RI0 RM0 RI RM v v7 S S2 ev h g fr em w
            rw [ev, nI_1] at h
            rcases w with ⟨w1, w2⟩ | ⟨w1, w2, w3⟩
            · have h := l_end w1 h
              have g := r_end w2 g
              subst h
              exact ⟨_, _, _, g, em, fr, Or.inr ⟨rfl, w2⟩⟩
            · rw [w1, em] at h
              obtain ⟨z1, z2, z3, z4, z5⟩ := w2
              obtain ⟨J', L', K', t1, t2, t3, t4⟩ := ih fv (y + 1) RI0 RM0 RI S2.1 S2.2.1 S2.2.2 R T h g z1 z2 w3 z5 (by omega) (by omega)
              exact ⟨J', L', K', t1, t2, t3.tr fr, t4⟩
          obtain ⟨r2, e2, h⟩ := wb_b h
          rcases isw (w := 3) (by decide) b3 b4 (by omega) e2 with ⟨d1, d2⟩ | ⟨d1, d2⟩
          · -- a set
            have h := wb_f (by rw [d1]; decide) h
            have g := wb_t ((kk.1 11 (by decide)).mpr d2) g
            obtain ⟨r18, e18, h⟩ := wb_b h
            obtain ⟨v19, e19, h⟩ := wb_v h
            obtain ⟨v20, e20, h⟩ := wb_v h
            obtain ⟨s44, f44, g⟩ := wb_b g
            obtain ⟨S2, g2, g⟩ := j183 g
            have fa := fr_fX12_readsSet f44
            have fb := need_fr g2
            have fr : FrK J S2.1 K S2.2.2 := (FrK.of fb (by decide) (by decide)).tr (FrK.of fa (by decide) (by decide))
            have em : r18.2.2.2.2 = M := (fr_fX5_readSet e18).2.nil
            refine step r18.2.1 r18.2.2.1 r18.2.2.2.1 r18.2.2.2.2 v19 v20 s44 S2 e20 h g fr em ?_
            rw [e19]
            rcases setl tk j4 n5 e18 f44 g2 with w | ⟨w1, w2, w3, w4, w5, w6, w7⟩
            · exact Or.inl w
            · refine Or.inr ⟨w1, w2, ?_⟩
              have j13 : S2.1 13 = J 13 := (fb.1 13 (by decide)).trans (fa.1 13 (by decide))
              have j14 : S2.1 14 = J 14 := (fb.1 14 (by decide)).trans (fa.1 14 (by decide))
              have k13 : S2.2.2 13 = K 13 := (fb.2 13 (by decide)).trans (fa.2 13 (by decide))
              have k14 : S2.2.2 14 = K 14 := (fb.2 14 (by decide)).trans (fa.2 14 (by decide))
              have k15 : S2.2.2 15 = K 15 := (fb.2 15 (by decide)).trans (fa.2 15 (by decide))
              unfold HN
              rw [j13, j14, k13, k14, k15, w4, w5, w6]
              exact ⟨n1, n2, n3, n4, w7, n6, n7⟩
          · have h := wb_t d1 h
            have g := wb_f (fun z => d2 ((kk.1 11 (by decide)).mp z)) g
            obtain ⟨r3, e3, h⟩ := wb_b h
            rcases isw (w := 4) (by decide) b3 b4 (by omega) e3 with ⟨d3, d4⟩ | ⟨d3, d4⟩
            · -- a climate
              have h := wb_f (by rw [d3]; decide) h
              have g := wb_t ((kk.1 16 (by decide)).mpr d4) g
              obtain ⟨r13, e13, h⟩ := wb_b h
              obtain ⟨I14, eI14, h⟩ := wb_v h
              obtain ⟨M15, eM15, h⟩ := wb_v h
              obtain ⟨v16, e16, h⟩ := wb_v h
              obtain ⟨v17, e17, h⟩ := wb_v h
              obtain ⟨s43, f43, g⟩ := wb_b g
              obtain ⟨S2, g2, g⟩ := j183 g
              have fa := fr_fX12_readsClimate f43
              have fb := need_fr g2
              have fr : FrK J S2.1 K S2.2.2 := (FrK.of fb (by decide) (by decide)).tr (FrK.of fa (by decide) (by decide))
              have em : r13.2.2.2.2 = M := (fr_fX2_readClimate e13).2.nil
              refine step I14 M15 r13.2.2.2.1 r13.2.2.2.2 v16 v17 s43 S2 e17 h g fr em ?_
              rw [e16]
              rcases clil tk j4 n1 n3.1 n3.2 n6 e13 f43 g2 with w | ⟨w1, w2, w3, w4, w5, w6, w7, w8⟩
              · exact Or.inl w
              · refine Or.inr ⟨w1, w2, ?_⟩
                have j14 : S2.1 14 = J 14 := (fb.1 14 (by decide)).trans (fa.1 14 (by decide))
                have k9 : S2.2.2 9 = K 9 := (fb.2 9 (by decide)).trans (fa.2 9 (by decide))
                have k10 : S2.2.2 10 = K 10 := (fb.2 10 (by decide)).trans (fa.2 10 (by decide))
                have k11 : S2.2.2 11 = K 11 := (fb.2 11 (by decide)).trans (fa.2 11 (by decide))
                have k12 : S2.2.2 12 = K 12 := (fb.2 12 (by decide)).trans (fa.2 12 (by decide))
                have k14 : S2.2.2 14 = K 14 := (fb.2 14 (by decide)).trans (fa.2 14 (by decide))
                have k15 : S2.2.2 15 = K 15 := (fb.2 15 (by decide)).trans (fa.2 15 (by decide))
                have i0 : I14 0 = r13.2.1 0 := by rw [eI14]; exact wbi_lt (by decide)
                have i1 : I14 1 = I0 1 := by rw [eI14]; exact wbi_ge (Or.inr (by decide))
                have mo : ∀ k, k < 4 → M15 k = M0 k := fun k hk => by rw [eM15]; exact wbi_ge (Or.inl hk)
                have m4 : M15 4 = r13.2.2.1 0 := by rw [eM15]; exact wbi_in (by decide) (by decide)
                have m5 : M15 5 = M0 5 := by rw [eM15]; exact wbi_ge (Or.inr (by decide))
                unfold HN H4
                rw [i0, i1, j14, k9, k10, k11, k12, k14, k15, m4, m5, mo 0 (by decide), mo 1 (by decide), mo 2 (by decide), mo 3 (by decide), w5, w3]
                exact ⟨w4, n2, ⟨w7, w6⟩, n4, n5, w8, n7⟩
            · have h := wb_t d3 h
              have g := wb_f (fun z => d4 ((kk.1 16 (by decide)).mp z)) g
              obtain ⟨r4, e4, h⟩ := wb_b h
              rcases isw (w := 5) (by decide) b3 b4 (by omega) e4 with ⟨d5, d6⟩ | ⟨d5, d6⟩
              · -- a hand
                have h := wb_f (by rw [d5]; decide) h
                have g := wb_t ((kk.1 17 (by decide)).mpr d6) g
                obtain ⟨r8, e8, h⟩ := wb_b h
                obtain ⟨I9, eI9, h⟩ := wb_v h
                obtain ⟨M10, eM10, h⟩ := wb_v h
                obtain ⟨v11, e11, h⟩ := wb_v h
                obtain ⟨v12, e12, h⟩ := wb_v h
                obtain ⟨s42, f42, g⟩ := wb_b g
                obtain ⟨S2, g2, g⟩ := j183 g
                have fa := fr_fX12_readsHand f42
                have fb := need_fr g2
                have fr : FrK J S2.1 K S2.2.2 := (FrK.of fb (by decide) (by decide)).tr (FrK.of fa (by decide) (by decide))
                have em : r8.2.2.2.2 = M := (fr_fX4_readHand e8).2.nil
                refine step I9 M10 r8.2.2.2.1 r8.2.2.2.2 v11 v12 s42 S2 e12 h g fr em ?_
                rw [e11]
                rcases hanl tk j4 n2 n4.1 n4.2 n7 e8 f42 g2 with w | ⟨w1, w2, w3, w4, w5, w6, w7⟩
                · exact Or.inl w
                · refine Or.inr ⟨w1, w2, ?_⟩
                  have j13 : S2.1 13 = J 13 := (fb.1 13 (by decide)).trans (fa.1 13 (by decide))
                  have k9 : S2.2.2 9 = K 9 := (fb.2 9 (by decide)).trans (fa.2 9 (by decide))
                  have k10 : S2.2.2 10 = K 10 := (fb.2 10 (by decide)).trans (fa.2 10 (by decide))
                  have k11 : S2.2.2 11 = K 11 := (fb.2 11 (by decide)).trans (fa.2 11 (by decide))
                  have k12 : S2.2.2 12 = K 12 := (fb.2 12 (by decide)).trans (fa.2 12 (by decide))
                  have k13 : S2.2.2 13 = K 13 := (fb.2 13 (by decide)).trans (fa.2 13 (by decide))
                  have i0 : I9 0 = I0 0 := by rw [eI9]; exact wbi_ge (Or.inl (by decide))
                  have i1 : I9 1 = r8.2.1 0 := by rw [eI9]; exact wbi_in (by decide) (by decide)
                  have mo : ∀ k, k < 5 → M10 k = M0 k := fun k hk => by rw [eM10]; exact wbi_ge (Or.inl hk)
                  have m5 : M10 5 = r8.2.2.1 0 := by rw [eM10]; exact wbi_in (by decide) (by decide)
                  unfold HN H4
                  rw [i0, i1, j13, k9, k10, k11, k12, k13, mo 0 (by decide), mo 1 (by decide), mo 2 (by decide), mo 3 (by decide), mo 4 (by decide), m5, w5, w3]
                  exact ⟨n1, w4, n3, w6, n5, n6, w7⟩
              · -- nothing that can stand there
                have h := wb_t d5 h
                have g := wb_f (fun z => d6 ((kk.1 17 (by decide)).mp z)) g
                obtain ⟨r5, e5, h⟩ := wb_b h
                obtain ⟨v6, e6, h⟩ := wb_v h
                obtain ⟨v7, e7, h⟩ := wb_v h
                obtain ⟨s41, f41, g⟩ := wb_b g
                have e5 := refu e5
                subst e5
                have f41 := wrg0 j4 f41
                subst f41
                obtain ⟨S2, g2, g⟩ := j183 g
                have fb := need_fr g2
                have fr : FrK J S2.1 K S2.2.2 := (FrK.of fb (by decide) (by decide)).tr ⟨fun k hk => by
                  show upd (upd J 4 1) 5 (J 9) k = J k
                  unfold upd
                  rw [if_neg (by omega), if_neg (by omega)], fun _ _ => rfl⟩
                refine step I0 M0 _ M v6 v7 (upd (upd J 4 1) 5 (J 9), L, K) S2 e7 h g fr rfl (Or.inl ⟨e6, ?_⟩)
                exact stop_n (S := (upd (upd J 4 1) 5 (J 9), L, K)) (show ¬ (1 : Int32) = 0 by decide) g2
/-! a HOUSE: class and reference -/
theorem cp12_l {N n n2 : Nat} {f : Nat → Int32} (hn : n < 2 ^ 31) : ∀ (fu y : Nat) (g : Nat → Int32) r, fX12_copies_L2 N n f n2 fu g (nI y) = some r → y ≤ n → ∀ j, r j = if y ≤ j ∧ j < n then f j else g j := by
  intro fu
  induction fu with
  | zero => intro y g r h; cases (show none = some r from h)
  | succ fu ih =>
    intro y g r h hy j
    rw [fX12_copies_L2.eq_2] at h
    rcases ifr h with ⟨c, h⟩ | ⟨c, h⟩
    · have c := (nI_leI hn (by omega)).mp c
      have h := Option.some.inj h
      subst h
      rw [if_neg (by omega)]
    · have c : ¬ _ := fun z => c ((nI_leI hn (by omega)).mpr z)
      obtain ⟨-, h⟩ := wb_n h
      obtain ⟨-, h⟩ := wb_n h
      obtain ⟨f2, e2, h⟩ := wb_v h
      obtain ⟨v, ev, h⟩ := wb_v h
      rw [ev, nI_1] at h
      rw [nI_clamp (by omega)] at e2
      rw [ih (y + 1) f2 r h (by omega) j, e2]
      unfold upd
      by_cases h1 : y + 1 ≤ j ∧ j < n
      · rw [if_pos h1, if_pos (by omega)]
      · rw [if_neg h1]
        by_cases h2 : j = y
        · rw [if_pos h2, if_pos (by omega), h2]
        · rw [if_neg h2, if_neg (by omega)]
theorem cp12 {N n : Nat} {f g r : Nat → Int32} (hn : n < 2 ^ 31) (h : fX12_copies N n f n g = some r) : ∀ j, j < n → r j = f j := by
  intro j hj
  rw [cp12_l hn N 0 g r h (Nat.zero_le _) j, if_pos ⟨Nat.zero_le _, hj⟩]
theorem cpy0 {f g : Nat → Int32} {n j : Nat} (hj : j < n) : va_cpy f g 0 0 n j = f j := by
  unfold va_cpy
  rw [if_pos ⟨Nat.zero_le _, by omega⟩, Nat.zero_add]
  rfl
theorem cpF {N : Nat} {I0 I1 : Nat → Int32} {M0 M1 : Nat → Nat → Int32} {r : (Nat → Int32) × (Nat → Nat → Int32)} (h : fX5_copyFrom N I0 M0 I1 M1 = some r) : r.1 0 = I1 0 ∧ r.1 1 = I1 1 ∧ (∀ j, j < 28 → r.2 0 j = M1 0 j ∧ r.2 1 j = M1 1 j ∧ r.2 2 j = M1 2 j ∧ r.2 3 j = M1 3 j) ∧ (∀ j, j < 91 → r.2 4 j = M1 4 j) ∧ (∀ j, j < 30 → r.2 5 j = M1 5 j) := by
  unfold fX5_copyFrom at h
  obtain ⟨-, h⟩ := wb_n h
  obtain ⟨A1, e1, h⟩ := wb_v h
  obtain ⟨-, h⟩ := wb_n h
  obtain ⟨A2, e2, h⟩ := wb_v h
  obtain ⟨-, h⟩ := wb_n h
  obtain ⟨A3, e3, h⟩ := wb_v h
  obtain ⟨-, h⟩ := wb_n h
  obtain ⟨A4, e4, h⟩ := wb_v h
  obtain ⟨r5, e5, h⟩ := wb_b h
  obtain ⟨I6, e6, h⟩ := wb_v h
  obtain ⟨A7, e7, h⟩ := wb_v h
  obtain ⟨r8, e8, h⟩ := wb_b h
  obtain ⟨I9, e9, h⟩ := wb_v h
  obtain ⟨A10, e10, h⟩ := wb_v h
  have h := Option.some.inj h
  subst h
  unfold fX2_copyFrom at e5
  obtain ⟨-, e5⟩ := wb_n e5
  obtain ⟨B1, f1, e5⟩ := wb_v e5
  obtain ⟨B2, f2, e5⟩ := wb_v e5
  have e5 := Option.some.inj e5
  subst e5
  unfold fX4_copyFrom at e8
  obtain ⟨-, e8⟩ := wb_n e8
  obtain ⟨C1, g1, e8⟩ := wb_v e8
  obtain ⟨C2, g2, e8⟩ := wb_v e8
  have e8 := Option.some.inj e8
  subst e8
  have z0 : ((0 : Int32)).toNatClampNeg = 0 := by decide
  have z28 : ((28 : Int32)).toNatClampNeg = 28 := by decide
  have z91 : ((91 : Int32)).toNatClampNeg = 91 := by decide
  have z30 : ((30 : Int32)).toNatClampNeg = 30 := by decide
  rw [z0, z28] at e1 e2 e3 e4
  rw [z0, z91] at f1
  rw [z0, z30] at g1
  have a10 : ∀ k, k < 4 → A10 k = A4 k := fun k hk => by
    rw [e10, wbi_ge (Or.inl (by omega)), e7, wbi_ge (Or.inl (by omega))]
  refine ⟨?_, ?_, ?_, ?_, ?_⟩
  · show I9 0 = I1 0
    rw [e9, wbi_ge (Or.inl (by decide)), e6, wbi_lt (by decide)]
    show B2 0 = _
    rw [f2]; rfl
  · show I9 1 = I1 1
    rw [e9, wbi_in (by decide) (by decide)]
    show C2 0 = _
    rw [g2]; rfl
  · intro j hj
    show A10 0 j = _ ∧ A10 1 j = _ ∧ A10 2 j = _ ∧ A10 3 j = _
    rw [a10 0 (by decide), a10 1 (by decide), a10 2 (by decide), a10 3 (by decide)]
    refine ⟨?_, ?_, ?_, ?_⟩
    · rw [e4, e3, e2, e1]
      show va_cpy (M1 0) (M0 0) 0 0 28 j = _
      exact cpy0 hj
    · rw [e4, e3, e2]
      show va_cpy (M1 1) (A1 1) 0 0 28 j = _
      exact cpy0 hj
    · rw [e4, e3]
      show va_cpy (M1 2) (A2 2) 0 0 28 j = _
      exact cpy0 hj
    · rw [e4]
      show va_cpy (M1 3) (A3 3) 0 0 28 j = _
      exact cpy0 hj
  · intro j hj
    show A10 4 j = _
    rw [e10, wbi_ge (Or.inl (by decide)), e7, wbi_in (by decide) (by decide)]
    show B1 0 j = _
    rw [f1]
    show va_cpy (wb_sh M1 4 0) _ 0 0 91 j = _
    rw [cpy0 hj]
    rfl
  · intro j hj
    show A10 5 j = _
    rw [e10, wbi_in (by decide) (by decide)]
    show C1 0 j = _
    rw [g1]
    show va_cpy (wb_sh M1 5 0) _ 0 0 30 j = _
    rw [cpy0 hj]
    rfl
theorem HC.cg {m m' : Nat → Int32} {c : Int} {ri ri' : Nat → Int32} (h : HC m c ri) (hc : c ≤ 7) (hm : ∀ j, j < 91 → m' j = m j) (hr : ∀ j, j < 84 → ri' j = ri j) : HC m' c ri' := by
  refine ⟨fun k hk => ?_, fun k hk s hs => ?_⟩
  · rw [hm _ (by omega)]; exact h.1 k hk
  · rw [hm _ (by omega), h.2 k hk s hs]
    exact (psm_cg s (fun i hi => hr _ (by omega))).symm
theorem HH.cg {m m' : Nat → Int32} {c : Int} {rd rd' st st' : Nat → Int32} (h : HH m c rd st) (hc : c ≤ 30) (hm : ∀ j, j < 30 → m' j = m j) (hr : ∀ j, j < 30 → rd' j = rd j) (hs : ∀ j, j < 30 → st' j = st j) : HH m' c rd' st' := by
  intro a b ha hb
  rw [hm a ha, h a b ha hb]
  constructor
  · rintro ⟨k, w1, w2, w3⟩
    exact ⟨k, w1, by rw [hr k (by omega)]; exact w2, by rw [hs k (by omega)]; exact w3⟩
  · rintro ⟨k, w1, w2, w3⟩
    exact ⟨k, w1, by rw [← hr k (by omega)]; exact w2, by rw [← hs k (by omega)]; exact w3⟩
/-- what HOUSES told, of both -/
def HT (I : Nat → Int32) (M : Nat → Nat → Int32) (J : Nat → Int32) (K : Nat → Nat → Int32) : Prop := I 9 = J 1 ∧ I 10 = J 2 ∧ (0 ≤ (J 1).toInt ∧ (J 1).toInt ≤ 7) ∧ (0 ≤ (J 2).toInt ∧ (J 2).toInt ≤ 30) ∧ (∀ j : Nat, j < 28 → (M 1 j = K 0 j ∧ M 2 j = K 1 j ∧ M 3 j = K 2 j ∧ M 4 j = K 3 j) ∧ HRg (K 0 j) (K 1 j) (K 2 j) (K 3 j)) ∧ HC (M 5) (J 1).toInt (K 4) ∧ HH (M 6) (J 2).toInt (K 6) (K 5)
theorem HT.cg {I I' : Nat → Int32} {M M' : Nat → Nat → Int32} {J J' : Nat → Int32} {K K' : Nat → Nat → Int32} (h : HT I M J K) (h9 : I' 9 = I 9) (h10 : I' 10 = I 10) (hm : ∀ k, k < 7 → 1 ≤ k → M' k = M k) (j1 : J' 1 = J 1) (j2 : J' 2 = J 2) (hk : ∀ k, k < 7 → K' k = K k) : HT I' M' J' K' := by
  unfold HT at h ⊢
  rw [h9, h10, j1, j2, hm 1 (by decide) (by decide), hm 2 (by decide) (by decide), hm 3 (by decide) (by decide), hm 4 (by decide) (by decide), hm 5 (by decide) (by decide), hm 6 (by decide) (by decide), hk 0 (by decide), hk 1 (by decide), hk 2 (by decide), hk 3 (by decide), hk 4 (by decide), hk 5 (by decide), hk 6 (by decide)]
  exact h
theorem hous {N N2 : Nat} {I J : Nat → Int32} {L : Int64} {M K : Nat → Nat → Int32} {n : Int32} {r : Nat ⊕ (Int32 × (Nat → Int32) × (Nat → Nat → Int32))} {S : Int32 × (Nat → Int32) × Int64 × (Nat → Nat → Int32)} (tr : TR I J M K) (ht : HT I M J K) (h : fX11_house N I M n = some r) (g : fX12_house N2 J L K n = some S) :
    (r = .inl 2 ∧ S.2.1 0 = 1 ∧ S.2.1 1 = J 1 ∧ S.2.1 2 = J 2 ∧ S.2.1 3 = J 3 ∧ S.2.2.2 = K) ∨ (∃ R, r = .inr R ∧ S.2.1 0 = 0 ∧ R.2.1 0 = 0 ∧ S.2.1 3 = 0 ∧ HT R.2.1 R.2.2 S.2.1 S.2.2.2) := by
  unfold fX11_house at h
  unfold fX12_house at g
  obtain ⟨J18, e18, g⟩ := wb_v g
  obtain ⟨J19, e19, g⟩ := wb_v g
  rw [e18] at e19
  obtain ⟨s20, f20, g⟩ := wb_b g
  rw [wn11] at h
  obtain ⟨r1, e1, h⟩ := wb_v h
  have c := wI_c n 0 (I 0)
  rw [show (0 : Int32).toInt = 0 from by decide, ← e1] at c
  have j0 : J19 0 = 0 := by rw [e19]; rfl
  have j1 : J19 1 = J 1 := by rw [e19]; rfl
  have j2 : J19 2 = J 2 := by rw [e19]; rfl
  have j3 : J19 3 = J 3 := by rw [e19]; rfl
  have j12 : J19 12 = 0 := by rw [e19]; rfl
  have ei := tr.1
  rcases bg12 j0 f20 with ⟨⟨n0, n1⟩, s7, f7, es⟩ | ⟨hn, es⟩
  · right
    rcases c with ⟨c, -⟩ | ⟨-, c⟩
    · rw [c, alow1] at h
      subst es
      have g := wb_f (c := (1 : Int32) = 0) (by decide) g
      obtain ⟨R, hR, h⟩ := oki h
      refine ⟨R, hR, ?_⟩
      obtain ⟨r3, e3, h⟩ := wb_b h
      obtain ⟨t1, t2, t3, t4, t5, t6, t7, t8, t9⟩ := beg (tr.cg rfl j3 rfl rfl) n0 n1 e3 f7
      rw [j0] at t8
      have k1 : s7.1 1 = J 1 := ((fr_fX12_steps f7).1 1 (by decide)).trans j1
      have k2 : s7.1 2 = J 2 := ((fr_fX12_steps f7).1 2 (by decide)).trans j2
      obtain ⟨I4, eI4, h⟩ := wb_v h
      obtain ⟨M5, eM5, h⟩ := wb_v h
      have m5 : M5 = M := by
        rw [eM5, t3]
        funext k
        by_cases hk : k < 1
        · exact wbi_lt hk
        · exact wbi_ge (Or.inr (by omega))
      rw [m5] at h
      obtain ⟨r6, e6, h⟩ := wb_b h
      obtain ⟨p1, p2, p3, p4, p5⟩ := cpF e6
      obtain ⟨I7, eI7, h⟩ := wb_v h
      obtain ⟨M8, eM8, h⟩ := wb_v h
      obtain ⟨r9, e9, h⟩ := wb_b h
      have i4 : ∀ k, k < 9 → I4 k = r3.1 k := fun k hk => by rw [eI4]; exact wbi_lt hk
      have i49 : ∀ k, 9 ≤ k → I4 k = I k := fun k hk => by rw [eI4]; exact wbi_ge (Or.inr (by omega))
      have i7 : ∀ k, k < 11 → I7 k = I4 k := fun k hk => by rw [eI7]; exact wbi_ge (Or.inl hk)
      have i711 : I7 11 = I 9 := by
        rw [eI7, wbi_in (by decide) (by decide)]
        exact p1.trans (i49 9 (by decide))
      have i712 : I7 12 = I 10 := by
        rw [eI7, wbi_in (by decide) (by decide)]
        exact p2.trans (i49 10 (by decide))
      have m8 : ∀ k, k < 7 → M8 k = M k := fun k hk => by rw [eM8]; exact wbi_ge (Or.inl hk)
      have m87 : ∀ k, k < 6 → M8 (7 + k) = r6.2 k := fun k hk => by
        rw [eM8, wbi_in (by omega) (by omega), show 7 + k - 7 = k by omega]
      -- the reference's draft
      obtain ⟨J21, e21, g⟩ := wb_v g
      obtain ⟨J22, e22, g⟩ := wb_v g
      rw [e21] at e22
      obtain ⟨x23, f23, g⟩ := wb_b g
      obtain ⟨K24, q24, g⟩ := wb_v g
      obtain ⟨x25, f25, g⟩ := wb_b g
      obtain ⟨K26, q26, g⟩ := wb_v g
      obtain ⟨x27, f27, g⟩ := wb_b g
      obtain ⟨K28, q28, g⟩ := wb_v g
      obtain ⟨x29, f29, g⟩ := wb_b g
      obtain ⟨K30, q30, g⟩ := wb_v g
      obtain ⟨x31, f31, g⟩ := wb_b g
      obtain ⟨K32, q32, g⟩ := wb_v g
      obtain ⟨x33, f33, g⟩ := wb_b g
      obtain ⟨K34, q34, g⟩ := wb_v g
      obtain ⟨x35, f35, g⟩ := wb_b g
      obtain ⟨K36, q36, g⟩ := wb_v g
      have d23 := cp12 (by decide) f23
      have d25 := cp12 (by decide) f25
      have d27 := cp12 (by decide) f27
      have d29 := cp12 (by decide) f29
      have d31 := cp12 (by decide) f31
      have d33 := cp12 (by decide) f33
      have d35 := cp12 (by decide) f35
      rw [t4] at q24 d23
      have z24 : ∀ k, k ≠ 9 → K24 k = K k := fun k hk => by rw [q24]; exact if_neg hk
      have z26 : ∀ k, k ≠ 10 → K26 k = K24 k := fun k hk => by rw [q26]; exact if_neg hk
      have z28 : ∀ k, k ≠ 11 → K28 k = K26 k := fun k hk => by rw [q28]; exact if_neg hk
      have z30 : ∀ k, k ≠ 12 → K30 k = K28 k := fun k hk => by rw [q30]; exact if_neg hk
      have z32 : ∀ k, k ≠ 13 → K32 k = K30 k := fun k hk => by rw [q32]; exact if_neg hk
      have z34 : ∀ k, k ≠ 14 → K34 k = K32 k := fun k hk => by rw [q34]; exact if_neg hk
      have z36 : ∀ k, k ≠ 15 → K36 k = K34 k := fun k hk => by rw [q36]; exact if_neg hk
      have zlo : ∀ k, k < 9 → K36 k = K k := fun k hk => by
        rw [z36 k (by omega), z34 k (by omega), z32 k (by omega), z30 k (by omega), z28 k (by omega), z26 k (by omega), z24 k (by omega)]
      have w9 : K36 9 = x23 := by
        rw [z36 9 (by decide), z34 9 (by decide), z32 9 (by decide), z30 9 (by decide), z28 9 (by decide), z26 9 (by decide), q24]; rfl
      have w10 : K36 10 = x25 := by
        rw [z36 10 (by decide), z34 10 (by decide), z32 10 (by decide), z30 10 (by decide), z28 10 (by decide), q26]; rfl
      have w11 : K36 11 = x27 := by
        rw [z36 11 (by decide), z34 11 (by decide), z32 11 (by decide), z30 11 (by decide), q28]; rfl
      have w12 : K36 12 = x29 := by
        rw [z36 12 (by decide), z34 12 (by decide), z32 12 (by decide), q30]; rfl
      have w13 : K36 13 = x31 := by
        rw [z36 13 (by decide), z34 13 (by decide), q32]; rfl
      have w14 : K36 14 = x33 := by
        rw [z36 14 (by decide), q34]; rfl
      have w15 : K36 15 = x35 := by
        rw [q36]; rfl
      rw [z24 1 (by decide)] at d25
      rw [z26 2 (by decide), z24 2 (by decide)] at d27
      rw [z28 3 (by decide), z26 3 (by decide), z24 3 (by decide)] at d29
      rw [z30 4 (by decide), z28 4 (by decide), z26 4 (by decide), z24 4 (by decide)] at d31
      rw [z32 5 (by decide), z30 5 (by decide), z28 5 (by decide), z26 5 (by decide), z24 5 (by decide)] at d33
      rw [z34 6 (by decide), z32 6 (by decide), z30 6 (by decide), z28 6 (by decide), z26 6 (by decide), z24 6 (by decide)] at d35
      obtain ⟨a1, a2, a3, a4, a5, a6, a7⟩ := ht
      have x13 : J22 13 = J 1 := by
        rw [e22]
        show s7.1 1 = _
        exact k1
      have x14 : J22 14 = J 2 := by
        rw [e22]
        show s7.1 2 = _
        exact k2
      have hn0 : HN (wb_sh I7 11) (wb_sh M8 7) J22 K36 := by
        unfold HN H4
        rw [x13, x14, w9, w10, w11, w12, w13, w14, w15]
        refine ⟨?_, ?_, a3, a4, ?_, ?_, ?_⟩
        · show I7 11 = _
          rw [i711]; exact a1
        · show I7 12 = _
          rw [i712]; exact a2
        · intro j hj
          show (M8 (7 + 0) j = _ ∧ M8 (7 + 1) j = _ ∧ M8 (7 + 2) j = _ ∧ M8 (7 + 3) j = _) ∧ _
          obtain ⟨⟨b1, b2, b3, b4⟩, br⟩ := a5 j hj
          obtain ⟨c1, c2, c3, c4⟩ := p3 j hj
          rw [m87 0 (by decide), m87 1 (by decide), m87 2 (by decide), m87 3 (by decide), c1, c2, c3, c4, d23 j hj, d25 j hj, d27 j hj, d29 j hj]
          exact ⟨⟨b1, b2, b3, b4⟩, br⟩
        · show HC (M8 (7 + 4)) _ _
          rw [m87 4 (by decide)]
          exact a6.cg a3.2 (fun j hj => p4 j hj) (fun j hj => d31 j hj)
        · show HH (M8 (7 + 5)) _ _ _
          rw [m87 5 (by decide)]
          exact a7.cg a4.2 (fun j hj => p5 j hj) (fun j hj => d35 j hj) (fun j hj => d33 j hj)
      have i79 : ∀ k, k < 9 → I7 k = r3.1 k := fun k hk => (i7 k (by omega)).trans (i4 k hk)
      have tk7 : TK I7 J22 s7.2.1 M8 K36 := by
        have : TK I7 s7.1 s7.2.1 M8 K := t1.cg i79 (m8 0 (by decide))
        rw [e22]
        exact (this.cgK (zlo 8 (by decide)))
      unfold fX5_readLines at e9
      have e9b := e9
      obtain ⟨J', L', K', g3, v1, v2, v3⟩ := linl N N2 0 (wb_sh I7 11) (wb_sh M8 7) I7 J22 s7.2.1 K36 r9 S e9 g tk7 (by rw [e22]; exact t2) hn0 (by
        unfold PsT at t5 ⊢
        rw [i79 4 (by decide), i79 2 (by decide), i79 3 (by decide)]
        exact t5) (by
        have := tk7.2.2.2.1
        omega) (by omega)
      have y0 : J' 0 = 0 := by
        rw [v2.1 0 (by decide), e22]; exact t8
      have y1 : J' 1 = J 1 := by
        rw [v2.1 1 (by decide), e22]; exact k1
      have y2 : J' 2 = J 2 := by
        rw [v2.1 2 (by decide), e22]; exact k2
      have y3 : J' 3 = 0 := by
        rw [v2.1 3 (by decide), e22]; exact t9
      have yk : ∀ k, k < 9 → K' k = K k := fun k hk => (v2.2 k hk).trans (zlo k hk)
      obtain ⟨I10, eI10, h⟩ := wb_v h
      obtain ⟨M11, eM11, h⟩ := wb_v h
      have tx := (fr_fX5_readLines (N := N) (I0 := wb_sh I7 11) (M0 := wb_sh M8 7) (I1 := I7) (M1 := M8) (R := r9) e9b).1 0 (by decide)
      have i10 : I10 0 = 0 := by
        rw [eI10, wbi_lt (by decide), tx, i79 0 (by decide)]; exact t7
      have i109 : ∀ k, 9 ≤ k → k < 11 → I10 k = I k := fun k h1 h2 => by
        rw [eI10, wbi_ge (Or.inr (by omega)), wbi_ge (Or.inl h2), i7 k h2, i49 k h1]
      have i1011 : I10 11 = r9.2.1 0 := by
        rw [eI10, wbi_ge (Or.inr (by decide)), wbi_in (by decide) (by decide)]
      have i1012 : I10 12 = r9.2.1 1 := by
        rw [eI10, wbi_ge (Or.inr (by decide)), wbi_in (by decide) (by decide)]
      have m11 : ∀ k, k < 7 → 1 ≤ k → M11 k = M k := fun k h1 h2 => by
        rw [eM11, wbi_ge (Or.inr (by omega)), wbi_ge (Or.inl h1), m8 k h1]
      have m117 : ∀ k, k < 6 → M11 (7 + k) = r9.2.2.1 k := fun k hk => by
        rw [eM11, wbi_ge (Or.inr (by omega)), wbi_in (by omega) (by omega), show 7 + k - 7 = k by omega]
      have ht0 : HT I M J K := ⟨a1, a2, a3, a4, a5, a6, a7⟩
      unfold fX12_house_J203 at g3
      obtain ⟨q1, z1, g3⟩ := wb_b g3
      rcases v3 with ⟨u1, u2, u3⟩ | ⟨u1, u2⟩
      · rw [good1 u2] at z1
        have z1 := Option.some.inj z1
        have g3 := wb_f (by rw [← z1]; decide) g3
        have h := wb_f (by rw [u1]; decide) h
        obtain ⟨r12, e12, h⟩ := wb_b h
        obtain ⟨o1, o2, o3, o4, o5⟩ := cpF e12
        obtain ⟨I13, eI13, h⟩ := wb_v h
        obtain ⟨M14, eM14, h⟩ := wb_v h
        have h := Option.some.inj h
        subst h
        obtain ⟨JA, eA, g3⟩ := wb_v g3
        obtain ⟨JB, eB, g3⟩ := wb_v g3
        rw [eA] at eB
        obtain ⟨c1, l1, g3⟩ := wb_b g3
        obtain ⟨KA, qA, g3⟩ := wb_v g3
        obtain ⟨c2, l2, g3⟩ := wb_b g3
        obtain ⟨KB, qB, g3⟩ := wb_v g3
        obtain ⟨c3, l3, g3⟩ := wb_b g3
        obtain ⟨KC, qC, g3⟩ := wb_v g3
        obtain ⟨c4, l4, g3⟩ := wb_b g3
        obtain ⟨KD, qD, g3⟩ := wb_v g3
        obtain ⟨c5, l5, g3⟩ := wb_b g3
        obtain ⟨KE, qE', g3⟩ := wb_v g3
        obtain ⟨c6, l6, g3⟩ := wb_b g3
        obtain ⟨KF, qF, g3⟩ := wb_v g3
        obtain ⟨c7, l7, g3⟩ := wb_b g3
        obtain ⟨KG, qG, g3⟩ := wb_v g3
        have g3 := Option.some.inj g3
        subst g3
        have l1 := cp12 (by decide) l1
        have l2 := cp12 (by decide) l2
        have l3 := cp12 (by decide) l3
        have l4 := cp12 (by decide) l4
        have l5 := cp12 (by decide) l5
        have l6 := cp12 (by decide) l6
        have l7 := cp12 (by decide) l7
        have zA : ∀ k, k ≠ 0 → KA k = K' k := fun k hk => by rw [qA]; exact if_neg hk
        have zB : ∀ k, k ≠ 1 → KB k = KA k := fun k hk => by rw [qB]; exact if_neg hk
        have zC : ∀ k, k ≠ 2 → KC k = KB k := fun k hk => by rw [qC]; exact if_neg hk
        have zD : ∀ k, k ≠ 3 → KD k = KC k := fun k hk => by rw [qD]; exact if_neg hk
        have zE : ∀ k, k ≠ 4 → KE k = KD k := fun k hk => by rw [qE']; exact if_neg hk
        have zF : ∀ k, k ≠ 5 → KF k = KE k := fun k hk => by rw [qF]; exact if_neg hk
        have zG : ∀ k, k ≠ 6 → KG k = KF k := fun k hk => by rw [qG]; exact if_neg hk
        have y_0 : KG 0 = c1 := by
          rw [zG 0 (by decide), zF 0 (by decide), zE 0 (by decide), zD 0 (by decide), zC 0 (by decide), zB 0 (by decide), qA]; rfl
        have y_1 : KG 1 = c2 := by
          rw [zG 1 (by decide), zF 1 (by decide), zE 1 (by decide), zD 1 (by decide), zC 1 (by decide), qB]; rfl
        have y_2 : KG 2 = c3 := by
          rw [zG 2 (by decide), zF 2 (by decide), zE 2 (by decide), zD 2 (by decide), qC]; rfl
        have y_3 : KG 3 = c4 := by
          rw [zG 3 (by decide), zF 3 (by decide), zE 3 (by decide), qD]; rfl
        have y_4 : KG 4 = c5 := by
          rw [zG 4 (by decide), zF 4 (by decide), qE']; rfl
        have y_5 : KG 5 = c6 := by
          rw [zG 5 (by decide), qF]; rfl
        have y_6 : KG 6 = c7 := by
          rw [qG]; rfl
        rw [zA 10 (by decide)] at l2
        rw [zB 11 (by decide), zA 11 (by decide)] at l3
        rw [zC 12 (by decide), zB 12 (by decide), zA 12 (by decide)] at l4
        rw [zD 13 (by decide), zC 13 (by decide), zB 13 (by decide), zA 13 (by decide)] at l5
        rw [zE 14 (by decide), zD 14 (by decide), zC 14 (by decide), zB 14 (by decide), zA 14 (by decide)] at l6
        rw [zF 15 (by decide), zE 15 (by decide), zD 15 (by decide), zC 15 (by decide), zB 15 (by decide), zA 15 (by decide)] at l7
        obtain ⟨b1, b2, b3, b4, b5, b6, b7⟩ := u3
        have i13 : ∀ k, k < 9 → I13 k = I10 k := fun k hk => by rw [eI13]; exact wbi_ge (Or.inl hk)
        have i139 : I13 9 = r9.2.1 0 := by
          rw [eI13, wbi_in (by decide) (by decide)]
          exact o1.trans i1011
        have i1310 : I13 10 = r9.2.1 1 := by
          rw [eI13, wbi_in (by decide) (by decide)]
          exact o2.trans i1012
        have m14 : ∀ k, k < 6 → M14 (1 + k) = r12.2 k := fun k hk => by
          rw [eM14, wbi_in (by omega) (by omega), show 1 + k - 1 = k by omega]
        have jb1 : JB 1 = J' 13 := by rw [eB]; rfl
        have jb2 : JB 2 = J' 14 := by rw [eB]; rfl
        refine ⟨?_, ?_, ?_, ?_⟩
        · show JB 0 = 0
          rw [eB]; exact y0
        · show I13 0 = 0
          rw [i13 0 (by decide)]; exact i10
        · show JB 3 = 0
          rw [eB]; exact y3
        · show HT I13 M14 JB KG
          unfold HT
          rw [jb1, jb2, i139, i1310, y_0, y_1, y_2, y_3, y_4, y_5, y_6]
          refine ⟨b1, b2, b3, b4, ?_, ?_, ?_⟩
          · intro j hj
            show (M14 (1 + 0) j = _ ∧ M14 (1 + 1) j = _ ∧ M14 (1 + 2) j = _ ∧ M14 (1 + 3) j = _) ∧ _
            obtain ⟨⟨d1, d2, d3, d4⟩, dr⟩ := b5 j hj
            obtain ⟨f1, f2, f3, f4⟩ := o3 j hj
            rw [m14 0 (by decide), m14 1 (by decide), m14 2 (by decide), m14 3 (by decide), f1, f2, f3, f4, l1 j hj, l2 j hj, l3 j hj, l4 j hj]
            show (M11 (7 + 0) j = _ ∧ M11 (7 + 1) j = _ ∧ M11 (7 + 2) j = _ ∧ M11 (7 + 3) j = _) ∧ _
            rw [m117 0 (by decide), m117 1 (by decide), m117 2 (by decide), m117 3 (by decide)]
            exact ⟨⟨d1, d2, d3, d4⟩, dr⟩
          · show HC (M14 (1 + 4)) _ _
            rw [m14 4 (by decide)]
            refine b6.cg b3.2 (fun j hj => ?_) (fun j hj => l5 j hj)
            rw [o4 j hj]
            show M11 (7 + 4) j = _
            rw [m117 4 (by decide)]
          · show HH (M14 (1 + 5)) _ _ _
            rw [m14 5 (by decide)]
            refine b7.cg b4.2 (fun j hj => ?_) (fun j hj => l7 j hj) (fun j hj => l6 j hj)
            rw [o5 j hj]
            show M11 (7 + 5) j = _
            rw [m117 5 (by decide)]
      · rw [good2 u2] at z1
        have z1 := Option.some.inj z1
        have g3 := Option.some.inj (wb_t z1.symm g3)
        subst g3
        have h := Option.some.inj (wb_t u1 h)
        subst h
        refine ⟨y0, i10, y3, ?_⟩
        exact ht0.cg (i109 9 (by decide) (by decide)) (i109 10 (by decide) (by decide)) m11 y1 y2 (fun k hk => yk k (by omega))
    · exfalso
      apply c
      rw [ei, ← j3]
      exact ⟨n0, n1⟩
  · left
    rcases c with ⟨-, c⟩ | ⟨c, -⟩
    · exfalso
      apply hn
      rw [j3, ← ei]
      exact c
    · rw [c, alow0] at h
      subst es
      have g := Option.some.inj (wb_t (c := (0 : Int32) = 0) rfl g)
      subst g
      refine ⟨(Option.some.inj h).symm, ?_, ?_, ?_, ?_, rfl⟩
      · show (if J19 12 = 0 then (1 : Int32) else 2) = 1
        rw [if_pos j12]
      · exact j1
      · exact j2
      · exact j3
/-! class and reference, call by call -/
theorem wq_eb {α β : Type} {x : Option α} {k : α → Option β} {P : α → Prop} {Q : β → Prop} (h : wq x P) (h2 : ∀ r, x = some r → P r → wq (k r) Q) : wq (x.bind k) Q := by
  obtain ⟨r, rfl, hr⟩ := h
  exact h2 r rfl hr
theorem EnR.cg {M M' K K' : Nat → Nat → Int32} (h : EnR M K) (hm : M' 13 = M 13) (hk : K' 7 = K 7) : EnR M' K' := by
  unfold EnR at h ⊢
  rw [hm, hk]
  exact h
def RR (I0 : Nat → Int32) (M0 : Nat → Nat → Int32) (I1 : Nat → Int32) (M1 : Nat → Nat → Int32) : Prop := TR I0 I1 M0 M1 ∧ EnR M0 M1 ∧ HT I0 M0 I1 M1
theorem RR_fresh : RR fx_I fx_M fm_I fm_M := by
  refine ⟨⟨by decide, by decide, by decide, fun j hj => ?_⟩, fun j hj => ?_, ?_⟩
  · exfalso
    rw [show (fx_I 0).toInt = 0 from by decide] at hj
    omega
  · show (if ((13 : Nat) = 4 ∨ (13 : Nat) = 10) ∧ j < 28 then (1 : Int32) else if (13 : Nat) = 13 ∧ j < 2640 then -1 else _) = (if (7 : Nat) = 3 ∧ j < 28 then (1 : Int32) else if (7 : Nat) = 7 ∧ j < 2640 then -1 else _)
    rw [if_neg (by omega), if_pos ⟨rfl, hj⟩, if_neg (by omega), if_pos ⟨rfl, hj⟩]
  · refine ⟨by decide, by decide, by decide, by decide, fun j hj => ?_, ?_, ?_⟩
    · refine ⟨⟨?_, ?_, ?_, ?_⟩, ?_⟩
      · rw [fx_M_z 1 j (by decide), fm_M_z 0 j (by decide)]
      · rw [fx_M_z 2 j (by decide), fm_M_z 1 j (by decide)]
      · rw [fx_M_z 3 j (by decide), fm_M_z 2 j (by decide)]
      · show (if ((4 : Nat) = 4 ∨ (4 : Nat) = 10) ∧ j < 28 then (1 : Int32) else _) = (if (3 : Nat) = 3 ∧ j < 28 then (1 : Int32) else _)
        rw [if_pos ⟨Or.inl rfl, hj⟩, if_pos ⟨rfl, hj⟩]
      · rw [fm_M_z 0 j (by decide), fm_M_z 1 j (by decide), fm_M_z 2 j (by decide), show fm_M 3 j = 1 from by simp [fm_M, hj]]
        exact ⟨by decide, by decide, by decide, by decide⟩
    · refine ⟨fun k hk => ?_, fun k hk => ?_⟩
      · rw [fx_M_z 5 _ (by decide)]; decide
      · exfalso
        rw [show (fm_I 1).toInt = 0 from by decide] at hk
        omega
    · intro a b ha hb
      rw [fx_M_z 6 a (by decide), show bt 0 b = false from b_0 b]
      constructor
      · intro h; cases h
      · rintro ⟨k, hk, -⟩
        exfalso
        rw [show (fm_I 2).toInt = 0 from by decide] at hk
        omega
theorem hd_T_feed {N : Nat} {I0 I1 : Nat → Int32} {M0 M1 : Nat → Nat → Int32} {L1 : Int64} {a b c d e : Int32} {r : Int32 × (Nat → Int32) × (Nat → Nat → Int32)} {s : Int32 × (Nat → Int32) × Int64 × (Nat → Nat → Int32)} (e1 : fX11_feed N I0 M0 a b c d e = some r) (e3 : fX12_feed N I1 L1 M1 a b c d e = some s) (hr : RR I0 M0 I1 M1) : TR r.2.1 s.2.1 r.2.2 s.2.2.2 := (fed hr.1 e1 e3).2
theorem hs_house {N : Nat} {I0 I1 : Nat → Int32} {M0 M1 : Nat → Nat → Int32} {L1 : Int64} {a : Int32} {o : Nat → Int64} {r : Int32 × (Nat → Int32) × (Nat → Nat → Int32) × (Nat → Int64)} {s : Int32 × (Nat → Int32) × Int64 × (Nat → Nat → Int32)} (e1 : fL_house N I0 M0 a o = some r) (e3 : fX12_house N I1 L1 M1 a = some s) (hr : RR I0 M0 I1 M1) : TR r.2.1 s.2.1 r.2.2.1 s.2.2.2 ∧ HT r.2.1 r.2.2.1 s.2.1 s.2.2.2 := by
  unfold fL_house at e1
  rcases fr_hp e1 with ⟨k, e, h⟩ | ⟨R, e, h⟩
  · rcases hous hr.1 hr.2.2 e e3 with ⟨w1, w2, w3, w4, w5, w6⟩ | ⟨R, w, -⟩
    · have w1 := Sum.inl.inj w1
      have h := Option.some.inj (wb_t w1 h)
      subst h
      exact ⟨hr.1.cg rfl w5 rfl (by rw [w6]), hr.2.2.cg rfl rfl (fun _ _ _ => rfl) w3 w4 (fun _ _ => by rw [w6])⟩
    · cases w
  · rcases hous hr.1 hr.2.2 e e3 with ⟨w1, -⟩ | ⟨R', w, w1, w2, w3, w4⟩
    · cases w1
    · have w := Sum.inr.inj w
      subst w
      obtain ⟨o1, -, h⟩ := wb_v h
      have h := Option.some.inj h
      subst h
      refine ⟨⟨?_, ?_, ?_, ?_⟩, w4⟩
      · show R.2.1 0 = s.2.1 3
        rw [w2, w3]
      · show 0 ≤ (R.2.1 0).toInt
        rw [w2]; decide
      · show (R.2.1 0).toInt ≤ 600
        rw [w2]; decide
      · intro j hj
        exfalso
        have hj : (j : Int) < (R.2.1 0).toInt := hj
        rw [w2, show (0 : Int32).toInt = 0 from by decide] at hj
        omega
theorem hs_wheel {N : Nat} (hN : 3000000000 ≤ N) {I0 I1 : Nat → Int32} {M0 M1 : Nat → Nat → Int32} {L1 : Int64} {a b c : Int32} {o : Nat → Int64} {r : Int32 × (Nat → Int32) × (Nat → Nat → Int32) × (Nat → Int64)} {s : Int32 × (Nat → Int32) × Int64 × (Nat → Nat → Int32)} (e1 : fL_wheel N I0 M0 a b c o = some r) (e3 : fX12_wheel N I1 L1 M1 a b c = some s) (hr : RR I0 M0 I1 M1) : TR r.2.1 s.2.1 r.2.2.1 s.2.2.2 ∧ EnR r.2.2.1 s.2.2.2 ∧ s.2.1 0 = r.1 ∧ (r.1 = 0 → r.2.2.2 0 = s.1.toInt64) := by
  unfold fL_wheel at e1
  rcases fr_hp e1 with ⟨k, e, h⟩ | ⟨R, e, h⟩
  · rcases whl (by omega) hr.1 hr.2.1 e e3 with ⟨w1, w2, w3, w4⟩ | ⟨w1, w2, w3, w4⟩ | ⟨R, w, -⟩
    · have w1 := Sum.inl.inj w1
      have h := Option.some.inj (wb_t w1 h)
      subst h
      exact ⟨hr.1.cg rfl w3 rfl (by rw [w4]), hr.2.1.cg rfl (by rw [w4]), w2, fun z => absurd z (show ¬ (1 : Int32) = 0 by decide)⟩
    · have w1 := Sum.inl.inj w1
      have h := wb_f (by rw [w1]; decide) h
      have h := Option.some.inj (wb_t w1 h)
      subst h
      exact ⟨hr.1.cg rfl w3 rfl (by rw [w4]), hr.2.1.cg rfl (by rw [w4]), w2, fun z => absurd z (show ¬ (2 : Int32) = 0 by decide)⟩
    · cases w
  · rcases whl (by omega) hr.1 hr.2.1 e e3 with ⟨w1, -⟩ | ⟨w1, -⟩ | ⟨R', w, w1, w2, w3, w4, w5⟩
    · cases w1
    · cases w1
    · have w := Sum.inr.inj w
      subst w
      obtain ⟨o1, eo, h⟩ := wb_v h
      have h := Option.some.inj h
      subst h
      refine ⟨⟨?_, ?_, ?_, ?_⟩, w5, w1, fun _ => ?_⟩
      · show R.2.1 0 = s.2.1 3
        rw [w3, w4]
      · show 0 ≤ (R.2.1 0).toInt
        rw [w3]; decide
      · show (R.2.1 0).toInt ≤ 600
        rw [w3]; decide
      · intro j hj
        exfalso
        have hj : (j : Int) < (R.2.1 0).toInt := hj
        rw [w3, show (0 : Int32).toInt = 0 from by decide] at hj
        omega
      · show o1 0 = _
        rw [eo, ← w2]; rfl
/-! answers alike -/
theorem nd11 {N : Nat} {x : Int32} {α : Type} {f : Unit → Option (Nat ⊕ α)} {r : Nat ⊕ α} (h : wb_xb (fX11_need N x) f = some r) : (x = 0 ∧ r = .inl 1) ∨ (¬ x = 0 ∧ f () = some r) := by
  by_cases hx : x = 0
  · left
    refine ⟨hx, ?_⟩
    subst hx
    rw [need0] at h
    exact (Option.some.inj h).symm
  · right
    refine ⟨hx, ?_⟩
    have e : fX11_need N x = some (.inr ()) := by unfold fX11_need; rw [if_neg hx]; rfl
    rw [e] at h
    exact h
/-- bounds that cut a COST alike -/
def BN (a b : Int32) : Prop := a = b ∨ (93 ≤ a.toInt ∧ 93 ≤ b.toInt)
theorem BN.lt {a b c : Int32} (h : BN a b) (hc : c.toInt ≤ 93) : a < c ↔ b < c := by
  rcases h with h | ⟨h1, h2⟩
  · rw [h]
  · constructor
    · intro z
      have := (lt32 rfl rfl).mp z
      omega
    · intro z
      have := (lt32 rfl rfl).mp z
      omega
/-! checks of arguments, class and reference -/
theorem wI_n (x a b : Int32) (la lb : Int) (ha : a.toInt = la) (hb : b.toInt = lb) : (wI x a b = 1 ∧ la ≤ x.toInt ∧ x.toInt ≤ lb) ∨ (wI x a b = 0 ∧ ¬ (la ≤ x.toInt ∧ x.toInt ≤ lb)) := by
  rw [← ha, ← hb]
  exact wI_c x a b
theorem ck_within {N : Nat} {x a b r : Int32} (la lb : Int) (ha : a.toInt = la) (hb : b.toInt = lb) (h : fX11_within N x a b = some r) : (r = 1 ∧ la ≤ x.toInt ∧ x.toInt ≤ lb) ∨ (r = 0 ∧ ¬ (la ≤ x.toInt ∧ x.toInt ≤ lb)) := by
  rw [wn11] at h
  rw [← Option.some.inj h]
  exact wI_n x a b la lb ha hb
theorem ck_isBook {N : Nat} {x r : Int32} (h : fX11_isBook N x = some r) : (r = 1 ∧ 0 ≤ x.toInt ∧ x.toInt ≤ 5) ∨ (r = 0 ∧ ¬ (0 ≤ x.toInt ∧ x.toInt ≤ 5)) := by
  unfold fX11_isBook at h
  obtain ⟨r1, e1, h⟩ := wb_b h
  have h := Option.some.inj (wb_y h).2
  subst h
  exact ck_within 0 5 (by decide) (by decide) e1
/-- the relation does not see the reference's 'thrown' -/
theorem RR.j0 {I0 I1 : Nat → Int32} {M0 M1 : Nat → Nat → Int32} (h : RR I0 M0 I1 M1) (v : Int32) : RR I0 M0 (upd I1 0 v) M1 := h
/-! CLIMBS and their PLACES, of both -/
theorem psm_sm {f : Nat → Int32} {o : Nat} : ∀ n, psm f o n = sm f o n := by
  intro n
  induction n with
  | zero => rfl
  | succ n ih =>
    show psm f o n + (f (o + n)).toInt = sm f o n + (f (o + n)).toInt
    rw [ih]
/-- a told CLIMATE of both -/
def CL (m5 k4 : Nat → Int32) (c : Nat) : Prop := c < 7 ∧ (∀ s : Nat, s ≤ 12 → (m5 (13 * c + s)).toInt = psm k4 (12 * c) s) ∧ (∀ z : Nat, z < 12 → 1 ≤ (k4 (12 * c + z)).toInt ∧ (k4 (12 * c + z)).toInt ≤ 3600) ∧ psm k4 (12 * c) 12 = 3600
theorem CL.of {I J : Nat → Int32} {M K : Nat → Nat → Int32} (ht : HT I M J K) (k1 : RS (J 1) (K 4)) {c : Nat} (hc : (c : Int) < (J 1).toInt) : CL (M 5) (K 4) c := by
  obtain ⟨h1, h2, h3, h4, h5, h6, h7⟩ := ht
  have rv := k1 c hc
  exact ⟨by omega, h6.2 c hc, rv.1, by rw [psm_sm]; exact rv.2⟩
theorem CL.mono {m5 k4 : Nat → Int32} {c : Nat} (h : CL m5 k4 c) : ∀ d s : Nat, s + d ≤ 12 → psm k4 (12 * c) s + (d : Int) ≤ psm k4 (12 * c) (s + d) := by
  intro d
  induction d with
  | zero => intro s hs; simp
  | succ d ih =>
    intro s hs
    have a := ih s (by omega)
    have b := (h.2.2.1 (s + d) (by omega)).1
    show _ ≤ psm k4 (12 * c) (s + d) + (k4 (12 * c + (s + d))).toInt
    omega
theorem CL.rg {m5 k4 : Nat → Int32} {c : Nat} (h : CL m5 k4 c) {s : Nat} (hs : s ≤ 12) : (s : Int) ≤ psm k4 (12 * c) s ∧ psm k4 (12 * c) s ≤ 3600 - (12 - (s : Int)) := by
  have a := h.mono s 0 (by omega)
  have b := h.mono (12 - s) s (by omega)
  rw [Nat.zero_add] at a
  rw [show s + (12 - s) = 12 by omega, h.2.2.2] at b
  have z : psm k4 (12 * c) 0 = 0 := rfl
  omega
theorem i13 {x : Int32} {c s : Nat} (hx : x.toInt = (c : Int)) (hc : c < 7) {y : Int32} (hy : y.toInt = (s : Int)) (hs : s ≤ 13) : ((13 : Int32) * x + y).toInt = ((13 * c + s : Nat) : Int) ∧ ((13 : Int32) * x + y).toNatClampNeg = 13 * c + s ∧ ((13 : Int32) * x + y + 1).toNatClampNeg = 13 * c + (s + 1) := by
  have n13 : (13 : Int32).toInt = 13 := by decide
  have n1 : (1 : Int32).toInt = 1 := by decide
  have x1 := ia_mul 13 13 n13 x (by omega) (by omega)
  have x2 := ia_add ((13 : Int32) * x) y (by omega) (by omega)
  have x3 := ia_add ((13 : Int32) * x + y) 1 (by omega) (by omega)
  rw [cl32, cl32]
  omega
theorem i12 {x : Int32} {c s : Nat} (hx : x.toInt = (c : Int)) (hc : c < 7) {y : Int32} (hy : y.toInt = (s : Int)) (hs : s ≤ 13) : ((12 : Int32) * x + y).toNatClampNeg = 12 * c + s := by
  have n12 : (12 : Int32).toInt = 12 := by decide
  have x1 := ia_mul 12 12 n12 x (by omega) (by omega)
  have x2 := ia_add ((12 : Int32) * x) y (by omega) (by omega)
  rw [cl32]
  omega
/-! answers of both, from what the class's method and the reference's say -/
theorem fin_1sx {P : (Nat → Int32) → (Nat → Nat → Int32) → Prop} {x : Option (Nat ⊕ (Int32 × (Nat → Int32) × (Nat → Nat → Int32)))} {I : Nat → Int32} {M : Nat → Nat → Int32} {o : Nat → Int64} {r : Int32 × (Nat → Int32) × (Nat → Nat → Int32) × (Nat → Int64)} {j s : Int32} (h : wb_hp x (fun k => if k = 1 then some ((1 : Int32), I, M, o) else none) (fun r => (some (vp_updL o ((0 : Int32)).toNatClampNeg r.1.toInt64)).bind fun o1 => some ((0 : Int32), r.2.1, r.2.2, o1)) = some r) (key : ∀ q, x = some q → (q = .inl 1 ∧ j = 1 ∧ P I M) ∨ ∃ a, q = .inr a ∧ j = 0 ∧ a.1 = s ∧ P a.2.1 a.2.2) : (j = r.1 ∧ (r.1 = 0 → r.2.2.2 0 = s.toInt64)) ∧ P r.2.1 r.2.2.1 := by
  rcases fr_hp h with ⟨k, e, h⟩ | ⟨a, e, h⟩
  · obtain ⟨c, h⟩ := wb_y h
    have h := Option.some.inj h
    rcases key _ e with ⟨-, w, p⟩ | ⟨a, w, -⟩
    · rw [← h]
      exact ⟨⟨w, fun z => absurd z (by show ¬ (1 : Int32) = 0; decide)⟩, p⟩
    · cases w
  · obtain ⟨o1, eo, h⟩ := wb_v h
    have h := Option.some.inj h
    rcases key _ e with ⟨w, -⟩ | ⟨a2, w, w2, w3, p⟩
    · cases w
    · have w := Sum.inr.inj w
      rw [← h]
      rw [← w] at w3 p
      refine ⟨⟨w2, fun _ => ?_⟩, p⟩
      show o1 0 = _
      rw [eo, ← w3]
      rfl
/-! counts of both -/
/-- a loop that adds: what it adds, as a sum -/
noncomputable def sm2 (d : Nat → Int32) : Nat → Int32
  | 0 => 0
  | n + 1 => sm2 d n + d n
theorem z32 (x : Int32) : x + 0 = x := Int32.add_zero x
/-- the outcomes told, of both -/
noncomputable def OR (M K : Nat → Nat → Int32) : Prop := ∀ j : Nat, j < 20 → M 28 j = K 32 j ∧ (-1 ≤ (M 28 j).toInt ∧ (M 28 j).toInt ≤ 120) ∧ (¬ M 28 j = -1 → M 29 j = K 33 j ∧ 0 ≤ (M 29 j).toInt ∧ (M 29 j).toInt ≤ 120) ∧ M 30 j = K 34 j ∧ -1 ≤ (M 30 j).toInt ∧ (M 30 j).toInt ≤ 12
/-! SEARCHES of both -/
theorem ni1 : (1 : Int32).toInt = 1 := by decide
theorem ni0 : (0 : Int32).toInt = 0 := by decide
theorem nim1 : (-1 : Int32).toInt = -1 := by decide
theorem ni20 : (20 : Int32).toInt = 20 := by decide
theorem p1i {x : Int32} (h : x.toInt ≤ 2000000) : (x + 1).toInt = x.toInt + 1 := by
  have := Int32.le_toInt x
  have a := ia_add x 1 (by rw [ni1]; omega) (by rw [ni1]; omega)
  rw [ni1] at a
  exact a
noncomputable def QS (i m0 k : Nat → Int32) : Prop := i 1 = k 0 ∧ i 2 = k 1 ∧ i 3 = k 2 ∧ (0 ≤ (i 1).toInt ∧ (i 1).toInt ≤ 119) ∧ (0 ≤ (i 2).toInt ∧ (i 2).toInt ≤ 3) ∧ (0 ≤ (i 3).toInt ∧ (i 3).toInt ≤ 1000001) ∧ ((i 4 = 1000 ∧ i 5 = 0 ∧ i 6 = -1 ∧ k 3 = -1 ∧ k 4 = 0 ∧ k 5 = -1 ∧ k 6 = -1) ∨ (i 4 = k 3 ∧ (0 ≤ (i 4).toInt ∧ (i 4).toInt ≤ 93) ∧ i 5 = k 4 ∧ 1 ≤ (i 5).toInt ∧ (i 5).toInt ≤ (i 3).toInt ∧ m0 0 = k 5 ∧ i 6 = k 6))

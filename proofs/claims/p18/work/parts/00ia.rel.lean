/-! counts of both -/
/-- a loop that adds: what it adds, as a sum -/
noncomputable def sm2 (d : Nat → Int32) : Nat → Int32
  | 0 => 0
  | n + 1 => sm2 d n + d n
theorem ad32 (a b c : Int32) : a + b + c = a + c + b := by rw [Int32.add_assoc, Int32.add_comm b c, ← Int32.add_assoc]
theorem ac32 {a b c : Int32} (h : a + c = b + c) : a = b := by
  have := congrArg (fun z => z + -c) h
  simp only [Int32.add_assoc, Int32.add_right_neg, Int32.add_zero] at this
  exact this
/-- from o to n by one: what comes of it -/
theorem lp_acc {α : Type} {F : Nat → Int32 → Int32 → Option α} {d : Nat → Int32} {n o : Nat} {Q : Int32 → α → Prop} (z : ∀ v i a, ¬ F 0 v i = some a) (e : ∀ fu v a, F (fu + 1) v (nI n) = some a → Q v a) (st : ∀ fu v k a, o ≤ k → k < n → F (fu + 1) v (nI k) = some a → F fu (v + d k) (nI (k + 1)) = some a) : ∀ fu v k a, o ≤ k → k ≤ n → F fu v (nI k) = some a → ∃ w, Q w a ∧ w + sm2 d k = v + sm2 d n := by
  intro fu
  induction fu with
  | zero => intro v k a h1 h2 h; exact absurd h (z _ _ _)
  | succ fu ih =>
    intro v k a h1 h2 h
    rcases Nat.lt_or_ge k n with c | c
    · obtain ⟨w, q, e2⟩ := ih (v + d k) (k + 1) a (by omega) c (st fu v k a h1 c h)
      refine ⟨w, q, ac32 (c := d k) ?_⟩
      have e2 : w + (sm2 d k + d k) = v + d k + sm2 d n := e2
      rw [Int32.add_assoc, e2, ad32]
    · have hk : k = n := by omega
      subst hk
      exact ⟨v, e fu v a h, rfl⟩
theorem tl1 {N : Nat} {J : Nat → Int32} {L : Int64} {K : Nat → Nat → Int32} {x : Int32} : ∀ (fv : Nat) (y b : Int32), fX12_tells_L4 N J L K x fv 1 y = some b → b = 1 := by
  intro fv
  induction fv with
  | zero => intro y b h; cases (show none = some b from h)
  | succ fv ih =>
    intro y b h
    rw [fX12_tells_L4.eq_2] at h
    rcases ifr h with ⟨c, h⟩ | ⟨c, h⟩
    · exact (Option.some.inj (wb_y h).2).symm
    · have h := wb_f (c := (1 : Int32) = 0) (by decide) h
      obtain ⟨v, ev, h⟩ := wb_v h
      exact ih v b h
theorem tl_l {N N2 : Nat} {I J : Nat → Int32} {L : Int64} {M K : Nat → Nat → Int32} {x : Int32} (er : EnR M K) : ∀ (fu fv : Nat) (y a b : Int32), fX1_tellsSomething_L2 N I (wb_sh M 13) x fu y = some a → fX12_tells_L4 N2 J L K x fv 0 y = some b → a = b ∧ (a = 0 ∨ a = 1) := by
  intro fu
  induction fu with
  | zero => intro fv y a b h; cases (show none = some a from h)
  | succ fu ih =>
    intro fv y a b h g
    cases fv with
    | zero => cases (show none = some b from g)
    | succ fv =>
      rw [fX1_tellsSomething_L2.eq_2] at h
      rw [fX12_tells_L4.eq_2] at g
      rcases ifr h with ⟨c, h⟩ | ⟨c, h⟩
      · have h := Option.some.inj h
        have g := Option.some.inj (wb_y (wb_t c g)).2
        rw [← h, ← g]
        exact ⟨rfl, Or.inl rfl⟩
      · have g := wb_t (c := (0 : Int32) = 0) rfl (wb_f c g)
        obtain ⟨r, e, h⟩ := wb_b h
        obtain ⟨s, d, g⟩ := wb_b g
        have k := at_eq er e d
        rw [← k] at g
        rcases ifr h with ⟨c2, h⟩ | ⟨c2, h⟩
        · have g := wb_t c2 g
          obtain ⟨v, ev, h⟩ := wb_v h
          obtain ⟨w, ew, g⟩ := wb_v g
          rw [ev] at h
          rw [ew] at g
          exact ih fv _ a b h g
        · have g := wb_f c2 g
          obtain ⟨w, ew, g⟩ := wb_v g
          rw [← Option.some.inj h, tl1 fv w b g]
          exact ⟨rfl, Or.inr rfl⟩
theorem tl_eq {N N2 : Nat} {I J : Nat → Int32} {L : Int64} {M K : Nat → Nat → Int32} {x a b : Int32} (er : EnR M K) (h : fX1_tellsSomething N I (wb_sh M 13) x = some a) (g : fX12_tells N2 J L K x = some b) : a = b ∧ (a = 0 ∨ a = 1) := tl_l er N N2 0 a b h g
theorem z32 (x : Int32) : x + 0 = x := Int32.add_zero x
/-- the reference's second loop, with nothing to add -/
theorem c81n {N : Nat} {x : Int32} (h3 : ¬ x = 3) (h5 : ¬ x = 5) : ∀ (fv : Nat) (J : Nat → Int32) (L : Int64) (K : Nat → Nat → Int32) (v y : Int32) S, fX12_count_L81 N x fv J L K v y = some S → S = (if x = 4 then J 3 else v, J, L, K) := by
  intro fv
  induction fv with
  | zero => intro J L K v y S h; cases (show none = some S from h)
  | succ fv ih =>
    intro J L K v y S h
    rw [fX12_count_L81.eq_2] at h
    rcases ifr h with ⟨c, h⟩ | ⟨c, h⟩
    · rcases ifr h with ⟨c4, h⟩ | ⟨c4, h⟩
      · rw [if_pos c4]; exact (Option.some.inj h).symm
      · rw [if_neg c4]; exact (Option.some.inj h).symm
    · have h := wb_f h3 h
      unfold fX12_count_J103 at h
      have h := wb_f h5 h
      obtain ⟨v1, e1, h⟩ := wb_v h
      obtain ⟨v2, e2, h⟩ := wb_v h
      rw [e1, z32] at h
      exact ih J L K v v2 S h
theorem c46 {N N2 : Nat} {I : Nat → Int32} {M : Nat → Nat → Int32} : ∀ (fu fv : Nat) (J : Nat → Int32) (L : Int64) (K : Nat → Nat → Int32) (v y a : Int32) S, EnR M K → fX1_howManyTell_L4 N I (wb_sh M 13) fu v y = some a → fX12_count_L46 N2 2 fv J L K v y = some S → a = S.1 ∧ S.2.1 = J ∧ S.2.2.2 = K := by
  intro fu
  induction fu with
  | zero => intro fv J L K v y a S er h; cases (show none = some a from h)
  | succ fu ih =>
    intro fv J L K v y a S er h g
    cases fv with
    | zero => cases (show none = some S from g)
    | succ fv =>
      rw [fX1_howManyTell_L4.eq_2] at h
      rw [fX12_count_L46.eq_2] at g
      rcases ifr h with ⟨c, h⟩ | ⟨c, h⟩
      · have g := wb_t c g
        have q := c81n (by decide) (by decide) N2 J L K v 0 S g
        rw [if_neg (by decide)] at q
        rw [q, ← Option.some.inj h]
        exact ⟨rfl, rfl, rfl⟩
      · have g := wb_t (c := (2 : Int32) = 2) rfl (wb_f c g)
        obtain ⟨r, e, h⟩ := wb_b h
        obtain ⟨s, d, g⟩ := wb_b g
        have k := (tl_eq er e d).1
        rw [← k] at g
        rcases ifr h with ⟨c2, h⟩ | ⟨c2, h⟩
        · have g := wb_t c2 g
          obtain ⟨v1, e1, h⟩ := wb_v h
          obtain ⟨w1, d1, g⟩ := wb_v g
          obtain ⟨w2, d2, g⟩ := wb_v g
          rw [e1] at h
          rw [d1, d2, z32] at g
          exact ih fv J L K v _ a S er h g
        · have g := wb_f c2 g
          obtain ⟨v1, e1, h⟩ := wb_v h
          obtain ⟨v2, e2, h⟩ := wb_v h
          obtain ⟨w1, d1, g⟩ := wb_v g
          obtain ⟨w2, d2, g⟩ := wb_v g
          rw [e1, e2] at h
          rw [d1, d2] at g
          exact ih fv J L K _ _ a S er h g
/-- the outcomes told, of both -/
noncomputable def OR (M K : Nat → Nat → Int32) : Prop := ∀ j : Nat, j < 20 → M 28 j = K 32 j ∧ (-1 ≤ (M 28 j).toInt ∧ (M 28 j).toInt ≤ 120) ∧ (¬ M 28 j = -1 → M 29 j = K 33 j ∧ 0 ≤ (M 29 j).toInt ∧ (M 29 j).toInt ≤ 120) ∧ M 30 j = K 34 j ∧ -1 ≤ (M 30 j).toInt ∧ (M 30 j).toInt ≤ 12

/-! counts of both -/
/-- a loop that adds: what it adds, as a sum -/
noncomputable def sm2 (d : Nat → Int32) : Nat → Int32
  | 0 => 0
  | n + 1 => sm2 d n + d n
theorem ad32 (a b c : Int32) : a + b + c = a + c + b := by rw [Int32.add_assoc, Int32.add_comm b c, ← Int32.add_assoc]
theorem ac32 {a b c : Int32} (h : a + c = b + c) : a = b := by
  have := congrArg (fun z => z + -c) h
  simp only [Int32.add_assoc, Int32.add_right_neg, Int32.add_zero] at this
  exact this
/-- from o to n by one: what comes of it -/
theorem lp_acc {α : Type} {F : Nat → Int32 → Int32 → Option α} {d : Nat → Int32} {n o : Nat} {Q : Int32 → α → Prop} (z : ∀ v i a, ¬ F 0 v i = some a) (e : ∀ fu v a, F (fu + 1) v (nI n) = some a → Q v a) (st : ∀ fu v k a, o ≤ k → k < n → F (fu + 1) v (nI k) = some a → F fu (v + d k) (nI (k + 1)) = some a) : ∀ fu v k a, o ≤ k → k ≤ n → F fu v (nI k) = some a → ∃ w, Q w a ∧ w + sm2 d k = v + sm2 d n := by
  intro fu
  induction fu with
  | zero => intro v k a h1 h2 h; exact absurd h (z _ _ _)
  | succ fu ih =>
    intro v k a h1 h2 h
    rcases Nat.lt_or_ge k n with c | c
    · obtain ⟨w, q, e2⟩ := ih (v + d k) (k + 1) a (by omega) c (st fu v k a h1 c h)
      refine ⟨w, q, ac32 (c := d k) ?_⟩
      have e2 : w + (sm2 d k + d k) = v + d k + sm2 d n := e2
      rw [Int32.add_assoc, e2, ad32]
    · have hk : k = n := by omega
      subst hk
      exact ⟨v, e fu v a h, rfl⟩
theorem z32 (x : Int32) : x + 0 = x := Int32.add_zero x
/-- the reference's second loop, with nothing to add -/
theorem c81n {N : Nat} {x : Int32} (h3 : ¬ x = 3) (h5 : ¬ x = 5) : ∀ (fv : Nat) (J : Nat → Int32) (L : Int64) (K : Nat → Nat → Int32) (v y : Int32) S, fX12_count_L81 N x fv J L K v y = some S → S = (if x = 4 then J 3 else v, J, L, K) := by
  intro fv
  induction fv with
  | zero => intro J L K v y S h; cases (show none = some S from h)
  | succ fv ih =>
    intro J L K v y S h
    rw [fX12_count_L81.eq_2] at h
    rcases ifr h with ⟨c, h⟩ | ⟨c, h⟩
    · rcases ifr h with ⟨c4, h⟩ | ⟨c4, h⟩
      · rw [if_pos c4]; exact (Option.some.inj h).symm
      · rw [if_neg c4]; exact (Option.some.inj h).symm
    · have h := wb_f h3 h
      unfold fX12_count_J103 at h
      have h := wb_f h5 h
      obtain ⟨v1, e1, h⟩ := wb_v h
      obtain ⟨v2, e2, h⟩ := wb_v h
      rw [e1, z32] at h
      exact ih J L K v v2 S h
/-- the outcomes told, of both -/
noncomputable def OR (M K : Nat → Nat → Int32) : Prop := ∀ j : Nat, j < 20 → M 28 j = K 32 j ∧ (-1 ≤ (M 28 j).toInt ∧ (M 28 j).toInt ≤ 120) ∧ (¬ M 28 j = -1 → M 29 j = K 33 j ∧ 0 ≤ (M 29 j).toInt ∧ (M 29 j).toInt ≤ 120) ∧ M 30 j = K 34 j ∧ -1 ≤ (M 30 j).toInt ∧ (M 30 j).toInt ≤ 12

/-! numbers, words, stops: class and reference -/
theorem good0 {N : Nat} {J : Nat → Int32} {L : Int64} {K : Nat → Nat → Int32} {r : Int32} (h : fX12_isGood N J L K = some r) : (r = 1 ∧ J 4 = 0) ∨ (r = 0 ∧ ¬ J 4 = 0) := by
  unfold fX12_isGood at h
  rcases ifr h with ⟨c, h⟩ | ⟨c, h⟩
  · exact Or.inl ⟨(Option.some.inj h).symm, c⟩
  · exact Or.inr ⟨(Option.some.inj h).symm, c⟩
theorem good1 {N : Nat} {J : Nat → Int32} {L : Int64} {K : Nat → Nat → Int32} (h : J 4 = 0) : fX12_isGood N J L K = some 1 := by unfold fX12_isGood; rw [if_pos h]
theorem good2 {N : Nat} {J : Nat → Int32} {L : Int64} {K : Nat → Nat → Int32} (h : ¬ J 4 = 0) : fX12_isGood N J L K = some 0 := by unfold fX12_isGood; rw [if_neg h]
theorem need_n {N : Nat} {J : Nat → Int32} {L : Int64} {K : Nat → Nat → Int32} {x : Int32} {S : (Nat → Int32) × Int64 × (Nat → Nat → Int32)} (j4 : ¬ J 4 = 0) (h : fX12_need N J L K x = some S) : S = (J, L, K) := by
  unfold fX12_need at h
  rw [good2 j4, Option.bind_some] at h
  exact (Option.some.inj (wb_t (c := (0 : Int32) = 0) rfl h)).symm
theorem num_n {N : Nat} {J : Nat → Int32} {L : Int64} {K : Nat → Nat → Int32} {a b : Int32} {S : Int32 × (Nat → Int32) × Int64 × (Nat → Nat → Int32)} (j4 : ¬ J 4 = 0) (h : fX12_number N J L K a b = some S) : S = (0, J, L, K) := by
  unfold fX12_number at h
  rw [good2 j4, Option.bind_some] at h
  exact (Option.some.inj (wb_t (c := (0 : Int32) = 0) rfl h)).symm
theorem nam_n {N : Nat} {J : Nat → Int32} {L : Int64} {K : Nat → Nat → Int32} {k a b : Int32} {S : Int32 × (Nat → Int32) × Int64 × (Nat → Nat → Int32)} (j4 : ¬ J 4 = 0) (h : fX12_named N J L K k a b = some S) : S = (0, J, L, K) := by
  unfold fX12_named at h
  obtain ⟨r1, -, h⟩ := wb_b h
  rcases ifr h with ⟨c, h⟩ | ⟨c, h⟩
  · obtain ⟨r2, e2, h⟩ := wb_b h
    have e2 := need_n j4 e2
    subst e2
    obtain ⟨r3, e3, h⟩ := wb_b h
    have e3 := num_n j4 e3
    subst e3
    exact (Option.some.inj h).symm
  · obtain ⟨r2, e2, h⟩ := wb_b h
    have e2 := need_n j4 e2
    subst e2
    obtain ⟨r3, e3, h⟩ := wb_b h
    have e3 := num_n j4 e3
    subst e3
    exact (Option.some.inj h).symm
theorem wrg0 {N : Nat} {J : Nat → Int32} {L : Int64} {K : Nat → Nat → Int32} {x : Int32} {S : (Nat → Int32) × Int64 × (Nat → Nat → Int32)} (j4 : J 4 = 0) (h : fX12_wrong N J L K x = some S) : S = (upd (upd J 4 x) 5 (J 9), L, K) := by
  unfold fX12_wrong at h
  have h := wb_t j4 h
  obtain ⟨J1, e1, h⟩ := wb_v h
  obtain ⟨J2, e2, h⟩ := wb_v h
  rw [e1] at e2
  rw [e2] at h
  exact (Option.some.inj h).symm
theorem refu {N : Nat} {I : Nat → Int32} {M : Nat → Nat → Int32} {x : Int32} {R : Int32 × (Nat → Int32) × (Nat → Nat → Int32)} (h : fX9_refuse N I M x = some R) : R = (0, upd (upd I 7 x) 8 (I 2), M) := by
  unfold fX9_refuse at h
  obtain ⟨J1, e1, h⟩ := wb_v h
  obtain ⟨J2, e2, h⟩ := wb_v h
  rw [e1] at e2
  rw [e2] at h
  exact (Option.some.inj h).symm
theorem refu2 {N : Nat} {I : Nat → Int32} {M : Nat → Nat → Int32} {x : Int32} {R : Int32 × (Nat → Int32) × (Nat → Nat → Int32)} (h : ((fX9_refuse N I M x).bind fun r => if r.1 &&& 1 = r.1 then some (r.1, r.2.1, r.2.2) else none) = some R) : R = (0, upd (upd I 7 x) 8 (I 2), M) := by
  obtain ⟨r, e, h⟩ := wb_b h
  have e := refu e
  subst e
  exact (Option.some.inj (wb_y h).2).symm
/-- a FAULT of both, of the same kind -/
def FT (I J : Nat → Int32) : Prop := J 4 = I 7 ∧ ¬ J 4 = 0
theorem st_all {N N2 : Nat} {M K : Nat → Nat → Int32} {I J : Nat → Int32} {L : Int64} {R : (Nat → Int32) × (Nat → Nat → Int32)} {S : (Nat → Int32) × Int64 × (Nat → Nat → Int32)} (h : fX9_step N I M = some R) (g : fX12_steps N2 J L K = some S) (q : TQ I J M K) (j4 : J 4 = 0) : TK R.1 S.1 S.2.1 M K ∧ S.1 4 = 0 ∧ R.2 = M ∧ S.2.2 = K ∧ (I 3).toInt ≤ (R.1 2).toInt ∧ PsT R.1 ∧ R.1 7 = I 7 := by
  have m := st_mono h q.2.2.2.1 q.2.2.2.2.1
  exact ⟨st_tk h g q, ((fr_fX12_steps g).1 4 (by decide)).trans j4, (fr_fX9_step h).2.nil, (fr_fX12_steps g).2.nil, m.1, m.2, (fr_fX9_step h).1 7 (by decide)⟩
theorem hold {N : Nat} {I : Nat → Int32} {M : Nat → Nat → Int32} {a b : Int32} {R : Int32 × (Nat → Int32) × (Nat → Nat → Int32)} (h : fX9_holdsNumber N I M a b = some R) : (R = (1, upd I 6 (I 5), M) ∧ I 4 = 2 ∧ ¬ (7 : Int32) < I 3 - I 2 ∧ ¬ I 5 < a ∧ I 5 ≤ b) ∨ (R = (0, upd (upd I 7 2) 8 (I 2), M) ∧ I 4 = 2 ∧ ((7 : Int32) < I 3 - I 2 ∨ I 5 < a ∨ ¬ I 5 ≤ b)) ∨ (R = (0, upd (upd I 7 1) 8 (I 2), M) ∧ ¬ I 4 = 2) := by
  unfold fX9_holdsNumber at h
  rcases ifr h with ⟨c, h⟩ | ⟨c, h⟩
  · rcases ifr h with ⟨d, h⟩ | ⟨d, h⟩
    · exact Or.inr (Or.inl ⟨refu2 h, c, Or.inl d⟩)
    · rcases ifr h with ⟨e, h⟩ | ⟨e, h⟩
      · exact Or.inr (Or.inl ⟨refu2 h, c, Or.inr (Or.inl e)⟩)
      · rcases ifr h with ⟨f, h⟩ | ⟨f, h⟩
        · obtain ⟨I3, e3, h⟩ := wb_v h
          subst e3
          exact Or.inl ⟨(Option.some.inj h).symm, c, d, e, f⟩
        · exact Or.inr (Or.inl ⟨refu2 h, c, Or.inr (Or.inr f)⟩)
  · exact Or.inr (Or.inr ⟨refu2 h, c⟩)
theorem numr {N : Nat} {J : Nat → Int32} {L : Int64} {K : Nat → Nat → Int32} {a b : Int32} {S : Int32 × (Nat → Int32) × Int64 × (Nat → Nat → Int32)} (j4 : J 4 = 0) (h : fX12_number N J L K a b = some S) : (J 8 = 2 ∧ ¬ (7 : Int32) < J 10 ∧ ¬ J 11 < a ∧ J 11 ≤ b ∧ ∃ r3, fX12_steps N J L K = some r3 ∧ S = (J 11, r3.1, r3.2.1, r3.2.2)) ∨ (J 8 = 2 ∧ ((7 : Int32) < J 10 ∨ J 11 < a ∨ ¬ J 11 ≤ b) ∧ S = (J 11, upd (upd J 4 2) 5 (J 9), L, K)) ∨ (¬ J 8 = 2 ∧ S = (J 11, upd (upd J 4 1) 5 (J 9), L, K)) := by
  unfold fX12_number at h
  rw [good1 j4, Option.bind_some] at h
  have h := wb_f (c := (1 : Int32) = 0) (by decide) h
  have j50 : ∀ S, fX12_number_J50 N a b J L K = some S → S = (J 11, upd (upd J 4 2) 5 (J 9), L, K) := by
    intro S h
    unfold fX12_number_J50 fX12_number_J55 at h
    obtain ⟨r4, e4, h⟩ := wb_b h
    have e4 := wrg0 j4 e4
    subst e4
    obtain ⟨v1, e1, h⟩ := wb_v h
    subst e1
    rw [good2 (J := upd (upd J 4 2) 5 (J 9)) (show ¬ (2 : Int32) = 0 by decide), Option.bind_some] at h
    exact (Option.some.inj (wb_t (c := (0 : Int32) = 0) rfl h)).symm
  rcases ifr h with ⟨c, h⟩ | ⟨c, h⟩
  · rcases ifr h with ⟨d, h⟩ | ⟨d, h⟩
    · exact Or.inr (Or.inl ⟨c, Or.inl d, j50 S h⟩)
    · rcases ifr h with ⟨e, h⟩ | ⟨e, h⟩
      · exact Or.inr (Or.inl ⟨c, Or.inr (Or.inl e), j50 S h⟩)
      · rcases ifr h with ⟨f, h⟩ | ⟨f, h⟩
        · left
          unfold fX12_number_J55 at h
          obtain ⟨v1, e1, h⟩ := wb_v h
          subst e1
          rw [good1 j4, Option.bind_some] at h
          have h := wb_f (c := (1 : Int32) = 0) (by decide) h
          obtain ⟨r3, e3, h⟩ := wb_b h
          exact ⟨c, d, e, f, r3, e3, (Option.some.inj h).symm⟩
        · exact Or.inr (Or.inl ⟨c, Or.inr (Or.inr f), j50 S h⟩)
  · right; right
    refine ⟨c, ?_⟩
    obtain ⟨r4, e4, h⟩ := wb_b h
    have e4 := wrg0 j4 e4
    subst e4
    unfold fX12_number_J55 at h
    obtain ⟨v1, e1, h⟩ := wb_v h
    subst e1
    rw [good2 (J := upd (upd J 4 1) 5 (J 9)) (show ¬ (1 : Int32) = 0 by decide), Option.bind_some] at h
    exact (Option.some.inj (wb_t (c := (0 : Int32) = 0) rfl h)).symm
theorem TK.w6 {I J : Nat → Int32} {L : Int64} {M K : Nat → Nat → Int32} (h : TK I J L M K) (v : Int32) : TQ (upd I 6 v) J M K := h.1
/-- a number that is held, not yet taken, by the class; taken by the reference -/
theorem hold_tk {N N2 : Nat} {M K : Nat → Nat → Int32} {I J : Nat → Int32} {L : Int64} {a b : Int32} {R : Int32 × (Nat → Int32) × (Nat → Nat → Int32)} {S : Int32 × (Nat → Int32) × Int64 × (Nat → Nat → Int32)} (tk : TK I J L M K) (j4 : J 4 = 0) (h : fX9_holdsNumber N I M a b = some R) (g : fX12_number N2 J L K a b = some S) : (R = (1, upd I 6 (I 5), M) ∧ I 5 = J 11 ∧ ¬ J 11 < a ∧ J 11 ≤ b ∧ ∃ r3, fX12_steps N2 J L K = some r3 ∧ S = (J 11, r3.1, r3.2.1, r3.2.2)) ∨ (R.1 = 0 ∧ R.2.2 = M ∧ S.2.2.2 = K ∧ FT R.2.1 S.2.1) := by
  obtain ⟨q, b1, b2, b3, b4, b5, b6, b7⟩ := tk
  have q2 := q.2.1
  have e10 : I 3 - I 2 = J 10 := by rw [b5, q2, b1]
  rcases hold h with ⟨c1, c2, c3, c4, c5⟩ | ⟨c1, c2, c3⟩ | ⟨c1, c2⟩
  · have e5 := b6 c2
    rcases numr j4 g with ⟨d1, d2, d3, d4, d5⟩ | ⟨d1, d2, d3⟩ | ⟨d1, d2⟩
    · exact Or.inl ⟨c1, e5, d3, d4, d5⟩
    · exfalso
      rw [← e10, ← e5] at d2
      rcases d2 with d2 | d2 | d2
      · exact c3 d2
      · exact c4 d2
      · exact d2 c5
    · exact absurd (b2.symm.trans c2) d1
  · right
    subst c1
    have e5 := b6 c2
    rcases numr j4 g with ⟨d1, d2, d3, d4, d5⟩ | ⟨d1, d2, d3⟩ | ⟨d1, d2⟩
    · exfalso
      rw [e10, e5] at c3
      rcases c3 with c3 | c3 | c3
      · exact d2 c3
      · exact d3 c3
      · exact c3 d4
    · subst d3
      exact ⟨rfl, rfl, rfl, rfl, show ¬ (2 : Int32) = 0 by decide⟩
    · exact absurd (b2.symm.trans c2) d1
  · right
    subst c1
    rcases numr j4 g with ⟨d1, -⟩ | ⟨d1, -⟩ | ⟨d1, d2⟩
    · exact absurd (b2.trans d1) c2
    · exact absurd (b2.trans d1) c2
    · subst d2
      exact ⟨rfl, rfl, rfl, rfl, show ¬ (1 : Int32) = 0 by decide⟩
/-- a number of both -/
theorem num_tk {N N2 : Nat} {M K : Nat → Nat → Int32} {I J : Nat → Int32} {L : Int64} {a b : Int32} {R : Int32 × (Nat → Int32) × (Nat → Nat → Int32)} {S : Int32 × (Nat → Int32) × Int64 × (Nat → Nat → Int32)} (tk : TK I J L M K) (j4 : J 4 = 0) (h : fX9_takeNumber N I M a b = some R) (g : fX12_number N2 J L K a b = some S) : (R.1 = 1 ∧ TK R.2.1 S.2.1 S.2.2.1 M K ∧ S.2.1 4 = 0 ∧ R.2.1 6 = S.1 ∧ a.toInt ≤ S.1.toInt ∧ S.1.toInt ≤ b.toInt ∧ R.2.2 = M ∧ S.2.2.2 = K ∧ (I 3).toInt ≤ (R.2.1 2).toInt ∧ R.2.1 7 = I 7) ∨ (R.1 = 0 ∧ R.2.2 = M ∧ S.2.2.2 = K ∧ FT R.2.1 S.2.1) := by
  unfold fX9_takeNumber at h
  obtain ⟨r1, e1, h⟩ := wb_b h
  rcases hold_tk tk j4 e1 g with ⟨c1, c2, c3, c4, r3, c5, c6⟩ | ⟨c1, c2, c3, c4⟩
  · left
    subst c1
    have h := wb_f (c := (1 : Int32) = 0) (by decide) h
    obtain ⟨r2, e2, h⟩ := wb_b h
    have h := Option.some.inj h
    subst h
    subst c6
    obtain ⟨t1, t2, t3, t4, t5, t6, t7⟩ := st_all e2 c5 (tk.w6 _) j4
    refine ⟨rfl, t1, t2, ?_, ?_, ?_, t3, t4, t5, t7⟩
    · show r2.1 6 = J 11
      rw [(fr_fX9_step e2).1 6 (by decide)]
      exact c2
    · have this : ¬ _ := fun z => c3 ((lt32 rfl rfl).mpr z)
      show a.toInt ≤ (J 11).toInt
      omega
    · exact (le32 rfl rfl).mp c4
  · right
    have h := wb_t c1 h
    have h := Option.some.inj h
    subst h
    exact ⟨rfl, c2, c3, c4⟩
/-- a word of the class and a known word of the reference -/
theorem wrd_tk {N N2 : Nat} {M K : Nat → Nat → Int32} {I J : Nat → Int32} {L : Int64} {k : Nat} (hk : k < 19) {a b : Int32} {R : Int32 × (Nat → Int32) × (Nat → Nat → Int32)} {S : Int32 × (Nat → Int32) × Int64 × (Nat → Nat → Int32)} (tk : TK I J L M K) (j4 : J 4 = 0) (h : fX9_takeWord N I M (wz k) = some R) (g : fX12_named N2 J L K (nI k) a b = some S) : (R.1 = 1 ∧ R.2.2 = M ∧ (I 3).toInt ≤ (R.2.1 2).toInt ∧ R.2.1 7 = I 7 ∧ ∃ J1 L1, TK R.2.1 J1 L1 M K ∧ J1 4 = 0 ∧ fX12_number N2 J1 L1 K a b = some S) ∨ (R.1 = 0 ∧ R.2.2 = M ∧ S.2.2.2 = K ∧ FT R.2.1 S.2.1) := by
  have tk2 := tk
  obtain ⟨q, b1, b2, b3, b4, b5, b6, b7⟩ := tk2
  unfold fX9_takeWord at h
  unfold fX12_named at g
  obtain ⟨r1, e1, h⟩ := wb_b h
  obtain ⟨s1, f1, g⟩ := wb_b g
  have kk := (kw tk f1).1 k hk
  rcases isw (wz_lt k hk) b3 b4 (by have := q.2.2.2.1; have := q.2.2.2.2.1; omega) e1 with ⟨c1, c2⟩ | ⟨c1, c2⟩
  · left
    have h := wb_f (by rw [c1]; decide) h
    have g := wb_t (kk.mpr c2) g
    obtain ⟨r2, e2, h⟩ := wb_b h
    have h := Option.some.inj h
    subst h
    obtain ⟨s4, f4, g⟩ := wb_b g
    obtain ⟨s5, f5, g⟩ := wb_b g
    have g := Option.some.inj g
    subst g
    unfold fX12_need at f4
    rw [good1 j4, Option.bind_some] at f4
    have f4 := wb_f (c := (1 : Int32) = 0) (by decide) f4
    have f4 := wb_f (c := (1 : Int32) = 0) (by decide) f4
    obtain ⟨s6, f6, f4⟩ := wb_b f4
    have f4 := Option.some.inj f4
    subst f4
    obtain ⟨t1, t2, t3, t4, t5, t6, t7⟩ := st_all e2 f6 q j4
    refine ⟨rfl, t3, t5, t7, s6.1, s6.2.1, t1, t2, ?_⟩
    rw [← t4]
    exact f5
  · right
    have h := wb_t c1 h
    have h := refu2 h
    subst h
    have g := wb_f (fun z => c2 (kk.mp z)) g
    obtain ⟨s2, f2, g⟩ := wb_b g
    obtain ⟨s3, f3, g⟩ := wb_b g
    have g := Option.some.inj g
    subst g
    unfold fX12_need at f2
    rw [good1 j4, Option.bind_some] at f2
    have f2 := wb_f (c := (1 : Int32) = 0) (by decide) f2
    have f2 := wb_t (c := (0 : Int32) = 0) rfl f2
    obtain ⟨s6, f6, f2⟩ := wb_b f2
    have f2 := Option.some.inj f2
    subst f2
    have f6 := wrg0 j4 f6
    subst f6
    have f3 := num_n (J := upd (upd J 4 1) 5 (J 9)) (show ¬ (1 : Int32) = 0 by decide) f3
    subst f3
    exact ⟨rfl, rfl, rfl, rfl, show ¬ (1 : Int32) = 0 by decide⟩
/-- the sign ; of both -/
theorem stop_tk {N N2 : Nat} {M K : Nat → Nat → Int32} {I J : Nat → Int32} {L : Int64} {R : Int32 × (Nat → Int32) × (Nat → Nat → Int32)} {S : (Nat → Int32) × Int64 × (Nat → Nat → Int32)} (tk : TK I J L M K) (j4 : J 4 = 0) (h : fX9_takeStop N I M = some R) (g : (if J 8 = 3 then fX12_need N2 J L K 1 else fX12_need N2 J L K 0) = some S) : (R.1 = 1 ∧ TK R.2.1 S.1 S.2.1 M K ∧ S.1 4 = 0 ∧ R.2.2 = M ∧ S.2.2 = K ∧ (I 3).toInt ≤ (R.2.1 2).toInt ∧ PsT R.2.1 ∧ R.2.1 7 = I 7) ∨ (R.1 = 0 ∧ R.2.2 = M ∧ S.2.2 = K ∧ FT R.2.1 S.1) := by
  have tk2 := tk
  obtain ⟨q, b1, b2, b3, b4, b5, b6, b7⟩ := tk2
  unfold fX9_takeStop at h
  unfold fX12_need at g
  rw [good1 j4, Option.bind_some, Option.bind_some] at g
  rcases ifr h with ⟨c, h⟩ | ⟨c, h⟩
  · left
    have g := wb_t (b2.symm.trans c) g
    have g := wb_f (c := (1 : Int32) = 0) (by decide) g
    have g := wb_f (c := (1 : Int32) = 0) (by decide) g
    obtain ⟨r2, e2, h⟩ := wb_b h
    have h := Option.some.inj h
    subst h
    obtain ⟨s6, f6, g⟩ := wb_b g
    have g := Option.some.inj g
    subst g
    obtain ⟨t1, t2, t3, t4, t5, t6, t7⟩ := st_all e2 f6 q j4
    exact ⟨rfl, t1, t2, t3, t4, t5, t6, t7⟩
  · right
    have h := refu2 h
    subst h
    have g := wb_f (fun z => c (b2.trans z)) g
    have g := wb_f (c := (1 : Int32) = 0) (by decide) g
    have g := wb_t (c := (0 : Int32) = 0) rfl g
    obtain ⟨s6, f6, g⟩ := wb_b g
    have g := Option.some.inj g
    subst g
    have f6 := wrg0 j4 f6
    subst f6
    exact ⟨rfl, rfl, rfl, rfl, show ¬ (1 : Int32) = 0 by decide⟩

/-! checks of arguments, class and reference -/
theorem wI_n (x a b : Int32) (la lb : Int) (ha : a.toInt = la) (hb : b.toInt = lb) : (wI x a b = 1 ∧ la ≤ x.toInt ∧ x.toInt ≤ lb) ∨ (wI x a b = 0 ∧ ¬ (la ≤ x.toInt ∧ x.toInt ≤ lb)) := by
  rw [← ha, ← hb]
  exact wI_c x a b
theorem ck_within {N : Nat} {x a b r : Int32} (la lb : Int) (ha : a.toInt = la) (hb : b.toInt = lb) (h : fX11_within N x a b = some r) : (r = 1 ∧ la ≤ x.toInt ∧ x.toInt ≤ lb) ∨ (r = 0 ∧ ¬ (la ≤ x.toInt ∧ x.toInt ≤ lb)) := by
  rw [wn11] at h
  rw [← Option.some.inj h]
  exact wI_n x a b la lb ha hb
theorem ck_within12 {N : Nat} {x a b r : Int32} (la lb : Int) (ha : a.toInt = la) (hb : b.toInt = lb) (h : fX12_within N x a b = some r) : (r = 1 ∧ la ≤ x.toInt ∧ x.toInt ≤ lb) ∨ (r = 0 ∧ ¬ (la ≤ x.toInt ∧ x.toInt ≤ lb)) := ck_within (N := N) la lb ha hb h
theorem ck_isClimate {N : Nat} {I : Nat → Int32} {M : Nat → Nat → Int32} {x r : Int32} (h9 : 0 ≤ (I 9).toInt ∧ (I 9).toInt ≤ 7) (h : fX11_isClimate N I M x = some r) : (r = 1 ∧ 0 ≤ x.toInt ∧ x.toInt ≤ (I 9).toInt - 1) ∨ (r = 0 ∧ ¬ (0 ≤ x.toInt ∧ x.toInt ≤ (I 9).toInt - 1)) := by
  unfold fX11_isClimate at h
  obtain ⟨r1, e1, h⟩ := wb_b h
  have h := Option.some.inj (wb_y h).2
  subst h
  have n1 : (1 : Int32).toInt = 1 := by decide
  refine ck_within 0 ((I 9).toInt - 1) (by decide) ?_ e1
  rw [ia_sub _ _ (by omega) (by omega), n1]
/-- a check of the reference: by a condition -/
def CK (P : Prop) (J : Nat → Int32) (L : Int64) (K : Nat → Nat → Int32) (S : Int32 × (Nat → Int32) × Int64 × (Nat → Nat → Int32)) : Prop := (P ∧ S = (1, J, L, K)) ∨ (¬ P ∧ S = (0, upd J 0 1, L, K))
theorem rtb {N : Nat} {J : Nat → Int32} {L : Int64} {K : Nat → Nat → Int32} {S : Int32 × (Nat → Int32) × Int64 × (Nat → Nat → Int32)} {x : Int32} (j0 : J 0 = 0) (h : ((fX12_right N J L K x 1).bind fun r => if r.1 &&& 1 = r.1 then some (r.1, r.2.1, r.2.2.1, r.2.2.2) else none) = some S) : (¬ x = 0 ∧ S = (1, J, L, K)) ∨ (x = 0 ∧ S = (0, upd J 0 1, L, K)) := by
  obtain ⟨r, e, h⟩ := wb_b h
  have h := Option.some.inj (wb_y h).2
  subst h
  rcases rt12 j0 (by decide) e with ⟨a, b⟩ | ⟨a, b⟩
  · exact Or.inl ⟨a, by rw [b]⟩
  · exact Or.inr ⟨a, by rw [b]⟩
theorem rtb0 {N : Nat} {J : Nat → Int32} {L : Int64} {K : Nat → Nat → Int32} {S : Int32 × (Nat → Int32) × Int64 × (Nat → Nat → Int32)} (j0 : J 0 = 0) (h : ((fX12_right N J L K 0 1).bind fun r => if r.1 &&& 1 = r.1 then some (r.1, r.2.1, r.2.2.1, r.2.2.2) else none) = some S) : S = (0, upd J 0 1, L, K) := by
  rcases rtb j0 h with ⟨a, -⟩ | ⟨-, b⟩
  · exact absurd rfl a
  · exact b
theorem rtb1 {N : Nat} {J : Nat → Int32} {L : Int64} {K : Nat → Nat → Int32} {S : Int32 × (Nat → Int32) × Int64 × (Nat → Nat → Int32)} (j0 : J 0 = 0) (h : ((fX12_right N J L K 1 1).bind fun r => if r.1 &&& 1 = r.1 then some (r.1, r.2.1, r.2.2.1, r.2.2.2) else none) = some S) : S = (1, J, L, K) := by
  rcases rtb j0 h with ⟨-, b⟩ | ⟨a, -⟩
  · exact b
  · exact absurd a (by decide)
theorem ck12_isWay {N : Nat} {J : Nat → Int32} {L : Int64} {K : Nat → Nat → Int32} {x y : Int32} {S : Int32 × (Nat → Int32) × Int64 × (Nat → Nat → Int32)} (j0 : J 0 = 0) (h : fX12_isWay N J L K x y = some S) : CK ((0 ≤ x.toInt ∧ x.toInt ≤ 1) ∨ (x.toInt = 2 ∧ 0 ≤ y.toInt ∧ y.toInt ≤ (J 1).toInt - 1)) J L K S := by
  unfold fX12_isWay at h
  obtain ⟨r1, e1, h⟩ := wb_b h
  rcases ck_within12 0 2 (by decide) (by decide) e1 with ⟨q, e⟩ | ⟨q, e⟩
  · have h := wb_f (by rw [q]; decide) h
    rcases ifr h with ⟨c, h⟩ | ⟨c, h⟩
    · have c := (lt32 rfl (by decide : (2 : Int32).toInt = 2)).mp c
      exact Or.inl ⟨by omega, rtb1 j0 h⟩
    · have c : ¬ _ := fun z => c ((lt32 rfl (by decide : (2 : Int32).toInt = 2)).mpr z)
      rcases ifr h with ⟨d, h⟩ | ⟨d, h⟩
      · have d := (lt32 rfl (by decide : (0 : Int32).toInt = 0)).mp d
        exact Or.inr ⟨by omega, rtb0 j0 h⟩
      · have d : ¬ _ := fun z => d ((lt32 rfl (by decide : (0 : Int32).toInt = 0)).mpr z)
        rcases ifr h with ⟨f, h⟩ | ⟨f, h⟩
        · have f := (le32 (a := J 1) rfl rfl).mp f
          exact Or.inr ⟨by omega, rtb0 j0 h⟩
        · have f : ¬ _ := fun z => f ((le32 (a := J 1) rfl rfl).mpr z)
          exact Or.inl ⟨by omega, rtb1 j0 h⟩
  · exact Or.inr ⟨by omega, rtb0 j0 (wb_t q h)⟩
theorem ck_isWay {N : Nat} {I : Nat → Int32} {M : Nat → Nat → Int32} {x y r : Int32} (h9 : 0 ≤ (I 9).toInt ∧ (I 9).toInt ≤ 7) (h : fX11_isWay N I M x y = some r) : (r = 1 ∧ ((0 ≤ x.toInt ∧ x.toInt ≤ 1) ∨ (x.toInt = 2 ∧ 0 ≤ y.toInt ∧ y.toInt ≤ (I 9).toInt - 1))) ∨ (r = 0 ∧ ¬ ((0 ≤ x.toInt ∧ x.toInt ≤ 1) ∨ (x.toInt = 2 ∧ 0 ≤ y.toInt ∧ y.toInt ≤ (I 9).toInt - 1))) := by
  unfold fX11_isWay at h
  obtain ⟨r1, e1, h⟩ := wb_b h
  rcases ck_within 0 1 (by decide) (by decide) e1 with ⟨q, e⟩ | ⟨q, e⟩
  · have h := Option.some.inj (wb_f (by rw [q]; decide) h)
    exact Or.inl ⟨h.symm, Or.inl e⟩
  · have h := wb_t q h
    rcases ifr h with ⟨c, h⟩ | ⟨c, h⟩
    · have c := (eq32 rfl (by decide : (2 : Int32).toInt = 2)).mp c
      obtain ⟨r2, e2, h⟩ := wb_b h
      rcases ck_isClimate h9 e2 with ⟨q2, f⟩ | ⟨q2, f⟩
      · have h := Option.some.inj (wb_f (by rw [q2]; decide) h)
        exact Or.inl ⟨h.symm, Or.inr ⟨c, f.1, f.2⟩⟩
      · have h := Option.some.inj (wb_t q2 h)
        exact Or.inr ⟨h.symm, by omega⟩
    · have c : ¬ _ := fun z => c ((eq32 rfl (by decide : (2 : Int32).toInt = 2)).mpr z)
      have h := Option.some.inj h
      exact Or.inr ⟨h.symm, by omega⟩
/-- the relation does not see the reference's 'thrown' -/
theorem RR.j0 {I0 I1 : Nat → Int32} {M0 M1 : Nat → Nat → Int32} (h : RR I0 M0 I1 M1) (v : Int32) : RR I0 M0 (upd I1 0 v) M1 := h

/-! checks of arguments, class and reference -/
theorem wI_n (x a b : Int32) (la lb : Int) (ha : a.toInt = la) (hb : b.toInt = lb) : (wI x a b = 1 ∧ la ≤ x.toInt ∧ x.toInt ≤ lb) ∨ (wI x a b = 0 ∧ ¬ (la ≤ x.toInt ∧ x.toInt ≤ lb)) := by
  rw [← ha, ← hb]
  exact wI_c x a b
theorem ck_within {N : Nat} {x a b r : Int32} (la lb : Int) (ha : a.toInt = la) (hb : b.toInt = lb) (h : fX11_within N x a b = some r) : (r = 1 ∧ la ≤ x.toInt ∧ x.toInt ≤ lb) ∨ (r = 0 ∧ ¬ (la ≤ x.toInt ∧ x.toInt ≤ lb)) := by
  rw [wn11] at h
  rw [← Option.some.inj h]
  exact wI_n x a b la lb ha hb
theorem ck_within12 {N : Nat} {x a b r : Int32} (la lb : Int) (ha : a.toInt = la) (hb : b.toInt = lb) (h : fX12_within N x a b = some r) : (r = 1 ∧ la ≤ x.toInt ∧ x.toInt ≤ lb) ∨ (r = 0 ∧ ¬ (la ≤ x.toInt ∧ x.toInt ≤ lb)) := ck_within (N := N) la lb ha hb h
/-- a check of the reference: by a condition -/
def CK (P : Prop) (J : Nat → Int32) (L : Int64) (K : Nat → Nat → Int32) (S : Int32 × (Nat → Int32) × Int64 × (Nat → Nat → Int32)) : Prop := (P ∧ S = (1, J, L, K)) ∨ (¬ P ∧ S = (0, upd J 0 1, L, K))
/-- the relation does not see the reference's 'thrown' -/
theorem RR.j0 {I0 I1 : Nat → Int32} {M0 M1 : Nat → Nat → Int32} (h : RR I0 M0 I1 M1) (v : Int32) : RR I0 M0 (upd I1 0 v) M1 := h

/-! houses alike -/
theorem n360 : (360 : Int32).toInt = 360 := by decide
/-! hours alike -/
theorem hr_eq {N N2 : Nat} {I J : Nat → Int32} {L : Int64} {m K : Nat → Nat → Int32} {x t n sun rise a b : Int32} {c : Nat} (hc : CL (m 0) (K 4) c) (hx : x.toInt = (c : Int)) (ht : 0 ≤ t.toInt ∧ t.toInt ≤ 359) (hs : 0 ≤ sun.toInt ∧ sun.toInt ≤ 359) (g0 : fX12_at N2 J L K n 0 = some sun) (g7 : fX12_at N2 J L K n 7 = some rise) (f : fX2_isHour N I m x t sun rise = some a) (g : fX12_isHour N2 J L K n x t = some b) : a = b ∧ (a = 0 ∨ a = 1) := by
  have n60 : (60 : Int32).toInt = 60 := by decide
  have m60 := ia_mul 60 60 n60 sun (by omega) (by omega)
  unfold fX2_isHour at f
  unfold fX12_isHour at g
  obtain ⟨r1, f1, f⟩ := wb_b f
  obtain ⟨s0, d0, g⟩ := wb_b g
  obtain ⟨s1, d1, g⟩ := wb_b g
  obtain ⟨s7, d7, g⟩ := wb_b g
  have q0 : s0 = sun := Option.some.inj (d0.symm.trans g0)
  have q7 : s7 = rise := Option.some.inj (d7.symm.trans g7)
  rw [q0] at d1
  rw [q7] at g
  have e := (ri_eq hc hx ⟨by omega, by omega⟩ ht f1 d1).1
  rw [← e] at g
  rcases ifr f with ⟨k, f⟩ | ⟨k, f⟩
  · rw [← Option.some.inj f, ← Option.some.inj (wb_t k g)]
    exact ⟨rfl, Or.inr rfl⟩
  · rw [← Option.some.inj f, ← Option.some.inj (wb_f k g)]
    exact ⟨rfl, Or.inl rfl⟩
theorem cdv {y : Nat} (h : y < 2520) : ((nI y) / 360).toInt = ((y / 360 : Nat) : Int) ∧ (nI y - nI y / 360 * 360).toInt = ((y % 360 : Nat) : Int) := by
  have t : (nI y).toInt = (y : Int) := nI_toInt (by omega)
  have a := ia_div (nI y) 360 360 n360 (by omega) (by omega)
  have b := ia_rem (nI y) 360 360 n360 (by omega) (by omega)
  rw [t] at a b
  exact ⟨by omega, by omega⟩
/-- the hours that a WHEEL has, counted -/
theorem hh_l {N N2 : Nat} {I J : Nat → Int32} {L : Int64} {m K : Nat → Nat → Int32} {n sun rise x1 x2 : Int32} (hI : I 0 = J 1) (h7 : (J 1).toInt ≤ 7) (h70 : 0 ≤ (J 1).toInt) (hc : ∀ c : Nat, (c : Int) < (J 1).toInt → CL (m 0) (K 4) c) (hs : 0 ≤ sun.toInt ∧ sun.toInt ≤ 359) (g0 : fX12_at N2 J L K n 0 = some sun) (g7 : fX12_at N2 J L K n 7 = some rise) (j0 : J 0 = 0) : ∀ (fu fv y : Nat) (v a : Int32) S, fX2_howManyHours_L5 N I m sun rise fu v (nI y) = some a → fX12_hour_L67 N2 x1 x2 (-1) n 1 fv J L K v (nI y) = some S → 0 ≤ v.toInt → v.toInt ≤ (y : Int) → (y : Int) ≤ 360 * (J 1).toInt → S = (a, J, L, K) := by
  have m36 := ia_mul 360 360 n360 (J 1) (by omega) (by omega)
  intro fu
  induction fu with
  | zero => intro fv y v a S h; cases (show none = some a from h)
  | succ fu ih =>
    intro fv y v a S h g v0 v1 yb
    cases fv with
    | zero => cases (show none = some S from g)
    | succ fv =>
      rw [fX2_howManyHours_L5.eq_2, hI] at h
      rw [fX12_hour_L67.eq_2] at g
      have ty : (nI y).toInt = (y : Int) := nI_toInt (by omega)
      rcases ifr h with ⟨c, h⟩ | ⟨c, h⟩
      · have g := wb_t c g
        unfold fX12_hour_J127 at g
        have g := wb_t (c := (-1 : Int32) = -1) rfl g
        obtain ⟨r2, e2, g⟩ := wb_b g
        rcases rt12 j0 (by decide) e2 with ⟨-, q⟩ | ⟨q, -⟩
        · subst q
          have g := wb_f (c := (1 : Int32) = 0) (by decide) g
          rw [← Option.some.inj g, Option.some.inj h]
        · exact absurd q (by decide)
      · have g := wb_f c g
        have c : ¬ _ := fun z => c ((le32 m36 ty).mpr z)
        have g := wb_f (c := (1 : Int32) = 0) (by decide) g
        obtain ⟨r1, f1, h⟩ := wb_b h
        obtain ⟨s1, d1, g⟩ := wb_b g
        have yl : y < 2520 := by omega
        obtain ⟨p1, p2⟩ := cdv yl
        obtain ⟨e, e2⟩ := hr_eq (hc (y / 360) (by omega)) p1 ⟨by omega, by omega⟩ hs g0 g7 f1 d1
        rw [← e] at g
        rcases ifr h with ⟨c1, h⟩ | ⟨c1, h⟩
        · have g := wb_t c1 g
          obtain ⟨v1', e1, h⟩ := wb_v h
          obtain ⟨w1, d1, g⟩ := wb_v g
          rw [e1, nI_1] at h
          rw [d1, nI_1] at g
          exact ih fv (y + 1) v a S h g v0 (by omega) (by omega)
        · have g := wb_f c1 g
          have nv : ¬ v = -1 := by
            intro z
            rw [z, show (-1 : Int32).toInt = -1 from by decide] at v0
            omega
          have g := wb_f nv g
          obtain ⟨v1', e1, h⟩ := wb_v h
          obtain ⟨v2', e2, h⟩ := wb_v h
          obtain ⟨w1, d1, g⟩ := wb_v g
          obtain ⟨w2, d2, g⟩ := wb_v g
          rw [e1, e2, nI_1] at h
          rw [d1, d2, nI_1] at g
          have tv := ia_add v 1 (by rw [show (1 : Int32).toInt = 1 from by decide]; omega) (by rw [show (1 : Int32).toInt = 1 from by decide]; omega)
          rw [show (1 : Int32).toInt = 1 from by decide] at tv
          exact ih fv (y + 1) (v + 1) a S h g (by omega) (by omega) (by omega)
/-- the i-th of them -/
theorem hn_l {N N2 : Nat} {I J : Nat → Int32} {L : Int64} {m K : Nat → Nat → Int32} {n sun rise x1 x2 i xx : Int32} (hI : I 0 = J 1) (h7 : (J 1).toInt ≤ 7) (h70 : 0 ≤ (J 1).toInt) (hc : ∀ c : Nat, (c : Int) < (J 1).toInt → CL (m 0) (K 4) c) (hs : 0 ≤ sun.toInt ∧ sun.toInt ≤ 359) (g0 : fX12_at N2 J L K n 0 = some sun) (g7 : fX12_at N2 J L K n 7 = some rise) (j0 : J 0 = 0) (hi : 0 ≤ i.toInt) : ∀ (fu fv y : Nat) (l v a : Int32) S, fX2_nthHour_L6 N I m sun rise xx fu l (nI y) = some a → fX12_hour_L67 N2 x1 x2 i n 1 fv J L K v (nI y) = some S → 0 ≤ v.toInt → v.toInt ≤ (y : Int) → (y : Int) ≤ 360 * (J 1).toInt → 0 ≤ l.toInt → l.toInt = i.toInt - v.toInt → (a = -1 ∧ S.2.1 0 = 1) ∨ (0 ≤ a.toInt ∧ S = (a, J, L, K)) := by
  have m36 := ia_mul 360 360 n360 (J 1) (by omega) (by omega)
  have n1 : (1 : Int32).toInt = 1 := by decide
  have n0 : (0 : Int32).toInt = 0 := by decide
  have nm : (-1 : Int32).toInt = -1 := by decide
  have ni : ¬ i = -1 := by
    intro z
    rw [z, nm] at hi
    omega
  intro fu
  induction fu with
  | zero => intro fv y l v a S h; cases (show none = some a from h)
  | succ fu ih =>
    intro fv y l v a S h g v0 v1 yb l0 l1
    cases fv with
    | zero => cases (show none = some S from g)
    | succ fv =>
      rw [fX2_nthHour_L6.eq_2, hI] at h
      rw [fX12_hour_L67.eq_2] at g
      have ty : (nI y).toInt = (y : Int) := nI_toInt (by omega)
      rcases ifr h with ⟨c, h⟩ | ⟨c, h⟩
      · have g := wb_t c g
        unfold fX12_hour_J127 at g
        have g := wb_f ni g
        obtain ⟨r2, e2, g⟩ := wb_b g
        rcases rt12 j0 (by decide) e2 with ⟨q, -⟩ | ⟨-, q⟩
        · exact absurd rfl q
        · subst q
          have g := wb_t (c := (0 : Int32) = 0) rfl g
          rw [← Option.some.inj g]
          exact Or.inl ⟨(Option.some.inj h).symm, rfl⟩
      · have g := wb_f c g
        have c : ¬ _ := fun z => c ((le32 m36 ty).mpr z)
        have g := wb_f (c := (1 : Int32) = 0) (by decide) g
        have h := wb_f (fun z => by have := (lt32 rfl n0).mp z; omega) h
        obtain ⟨r1, f1, h⟩ := wb_b h
        obtain ⟨s1, d1, g⟩ := wb_b g
        have yl : y < 2520 := by omega
        obtain ⟨p1, p2⟩ := cdv yl
        obtain ⟨e, e2⟩ := hr_eq (hc (y / 360) (by omega)) p1 ⟨by omega, by omega⟩ hs g0 g7 f1 d1
        rw [← e] at g
        rcases ifr h with ⟨c1, h⟩ | ⟨c1, h⟩
        · have g := wb_t c1 g
          obtain ⟨v1', e1, h⟩ := wb_v h
          obtain ⟨w1, d1, g⟩ := wb_v g
          rw [e1, nI_1] at h
          rw [d1, nI_1] at g
          exact ih fv (y + 1) l v a S h g v0 (by omega) (by omega) l0 l1
        · have g := wb_f c1 g
          rcases ifr h with ⟨c2, h⟩ | ⟨c2, h⟩
          · have c2 := (eq32 rfl n0).mp c2
            have g := wb_t ((eq32 rfl rfl).mpr (show v.toInt = i.toInt by omega)) g
            rw [← Option.some.inj g, ← Option.some.inj h]
            exact Or.inr ⟨by omega, rfl⟩
          · have c2 : ¬ _ := fun z => c2 ((eq32 rfl n0).mpr z)
            have g := wb_f (fun z => by have := (eq32 rfl rfl).mp z; omega) g
            obtain ⟨v1', e1, h⟩ := wb_v h
            obtain ⟨v2', e2, h⟩ := wb_v h
            obtain ⟨w1, d1, g⟩ := wb_v g
            obtain ⟨w2, d2, g⟩ := wb_v g
            rw [e2, nI_1] at h
            rw [d2, nI_1] at g
            have tv := ia_add v 1 (by omega) (by omega)
            have hlt := Int32.toInt_lt l
            have tl := ia_add l (-1) (by omega) (by omega)
            rw [← d1] at tv
            rw [← e1] at tl
            exact ih fv (y + 1) v1' w1 a S h g (by omega) (by omega) (by omega) (by omega) (by omega)
/-- the reference looks for none below 0 -/
theorem hn_neg {N : Nat} {J : Nat → Int32} {L : Int64} {K : Nat → Nat → Int32} {n x1 x2 i b : Int32} (h7 : (J 1).toInt ≤ 7) (h70 : 0 ≤ (J 1).toInt) (j0 : J 0 = 0) (hi : i.toInt < -1) : ∀ (fv y : Nat) (v : Int32) S, fX12_hour_L67 N x1 x2 i n b fv J L K v (nI y) = some S → 0 ≤ v.toInt → v.toInt ≤ (y : Int) → (y : Int) ≤ 360 * (J 1).toInt → S.2.1 0 = 1 := by
  have m36 := ia_mul 360 360 n360 (J 1) (by omega) (by omega)
  have n1 : (1 : Int32).toInt = 1 := by decide
  have nm : (-1 : Int32).toInt = -1 := by decide
  have ni : ¬ i = -1 := by
    intro z
    rw [z, nm] at hi
    omega
  intro fv
  induction fv with
  | zero => intro y v S g; cases (show none = some S from g)
  | succ fv ih =>
    intro y v S g v0 v1 yb
    rw [fX12_hour_L67.eq_2] at g
    have ty : (nI y).toInt = (y : Int) := nI_toInt (by omega)
    have fin : fX12_hour_J127 N x1 x2 i J L K v = some S → S.2.1 0 = 1 := by
      intro g
      unfold fX12_hour_J127 at g
      have g := wb_f ni g
      obtain ⟨r2, e2, g⟩ := wb_b g
      rcases rt12 j0 (by decide) e2 with ⟨q, -⟩ | ⟨-, q⟩
      · exact absurd rfl q
      · subst q
        have g := wb_t (c := (0 : Int32) = 0) rfl g
        rw [← Option.some.inj g]
        rfl
    rcases ifr g with ⟨c, g⟩ | ⟨c, g⟩
    · exact fin g
    · have c : ¬ _ := fun z => c ((le32 m36 ty).mpr z)
      rcases ifr g with ⟨c1, g⟩ | ⟨c1, g⟩
      · exact fin g
      · obtain ⟨s1, d1, g⟩ := wb_b g
        rcases ifr g with ⟨c2, g⟩ | ⟨c2, g⟩
        · obtain ⟨w1, d1, g⟩ := wb_v g
          rw [d1, nI_1] at g
          exact ih (y + 1) v S g v0 (by omega) (by omega)
        · have g := wb_f (fun z => by have := (eq32 rfl rfl).mp z; omega) g
          obtain ⟨w1, d1, g⟩ := wb_v g
          obtain ⟨w2, d2, g⟩ := wb_v g
          rw [d2, nI_1] at g
          have tv := ia_add v 1 (by omega) (by omega)
          rw [← d1] at tv
          exact ih (y + 1) w1 S g (by omega) (by omega) (by omega)
/-- with nothing told it looks for none -/
theorem hn_no {N : Nat} {J : Nat → Int32} {L : Int64} {K : Nat → Nat → Int32} {n x1 x2 i : Int32} (j0 : J 0 = 0) (ni : ¬ i = -1) {fv : Nat} {v y : Int32} {S : Int32 × (Nat → Int32) × Int64 × (Nat → Nat → Int32)} (g : fX12_hour_L67 N x1 x2 i n 0 fv J L K v y = some S) : S.2.1 0 = 1 := by
  cases fv with
  | zero => cases (show none = some S from g)
  | succ fv =>
    rw [fX12_hour_L67.eq_2] at g
    have fin : fX12_hour_J127 N x1 x2 i J L K v = some S → S.2.1 0 = 1 := by
      intro g
      unfold fX12_hour_J127 at g
      have g := wb_f ni g
      obtain ⟨r2, e2, g⟩ := wb_b g
      rcases rt12 j0 (by decide) e2 with ⟨q, -⟩ | ⟨-, q⟩
      · exact absurd rfl q
      · subst q
        have g := wb_t (c := (0 : Int32) = 0) rfl g
        rw [← Option.some.inj g]
        rfl
    rcases ifr g with ⟨c, g⟩ | ⟨c, g⟩
    · exact fin g
    · exact fin (wb_t (c := (0 : Int32) = 0) rfl g)
/-! AGREE alike -/

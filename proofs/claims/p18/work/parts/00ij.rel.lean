/-! ahead of the answers -/
/-- HOURS: sun and RISE not told -/
theorem hrN {N : Nat} {I J : Nat → Int32} {M K : Nat → Nat → Int32} {L : Int64} {x1 x2 x3 a0 a7 n : Int32} {q : Nat ⊕ Int32} {s : Int32 × (Nat → Int32) × Int64 × (Nat → Nat → Int32)} (j0 : J 0 = 0) (h : fX11_hour_J49 N I M x1 x2 x3 a0 a7 0 = some q) (g : fX12_hour_J47 N x1 x2 x3 J L K n 0 = some s) : (q = .inl 1 ∧ s.2.1 0 = 1) ∨ ∃ a, q = .inr a ∧ s.2.1 0 = 0 ∧ a = s.1 := by
  unfold fX11_hour_J49 at h
  unfold fX12_hour_J47 at g
  have g := wb_t (c := (0 : Int32) = 0) rfl g
  rcases ifr h with ⟨c, h⟩ | ⟨c, h⟩
  · have g := Option.some.inj (wb_t c g)
    obtain ⟨a, ha, h⟩ := oki h
    have h := Option.some.inj (wb_t (c := (0 : Int32) = 0) rfl h)
    rw [← g]
    exact Or.inr ⟨a, ha, j0, h.symm⟩
  · have g := wb_f c g
    have h := wb_t (c := (0 : Int32) = 0) rfl h
    unfold fX11_hour_J104 at h
    have h := wb_t (c := (-1 : Int32) = -1) rfl h
    unfold fX12_hour_J61 at g
    rcases nd11 h with ⟨-, w⟩ | ⟨w, -⟩
    · exact Or.inl ⟨w, hn_no j0 c g⟩
    · exact absurd rfl w
theorem bg8 {N : Nat} {I : Nat → Int32} {M : Nat → Nat → Int32} {a b c : Int32} {r : (Nat → Int32) × (Nat → Nat → Int32)} (h : fX8_begin N I M a b c = some r) : r.1 0 = 1 ∧ r.1 1 = a ∧ r.1 2 = b ∧ r.1 3 = c ∧ r.1 4 = 1000 ∧ r.1 5 = 0 ∧ r.1 6 = -1 ∧ r.2 = M := by
  unfold fX8_begin at h
  have h := Option.some.inj h
  rw [← h]
  exact ⟨rfl, rfl, rfl, rfl, rfl, rfl, rfl, rfl⟩
/-- the latest BEST of both -/
noncomputable def QBR (I : Nat → Int32) (M : Nat → Nat → Int32) (J : Nat → Int32) (K : Nat → Nat → Int32) : Prop := (I 13 = 0 ∧ J 15 = -1) ∨ (I 13 = 1 ∧ I 18 = J 15 ∧ 1 ≤ (I 18).toInt ∧ ∀ j : Nat, j < 20 → (j : Int) < (I 18).toInt → M 16 j = K 17 j)
theorem QBR.cg {I I' J J' : Nat → Int32} {M M' K K' : Nat → Nat → Int32} (h : QBR I M J K) (a : I' 13 = I 13) (b : I' 18 = I 18) (c : M' 16 = M 16) (d : J' 15 = J 15) (e : K' 17 = K 17) : QBR I' M' J' K' := by
  unfold QBR at h ⊢
  rw [a, b, c, d, e]
  exact h
/-- a SEARCH of the class in its place, seen from the whole state -/
theorem ht_sh {I J : Nat → Int32} {M K : Nat → Nat → Int32} {o n : Nat} {i : Nat → Int32} {m : Nat → Nat → Int32} {p k : Nat} (ht : HT I M J K) (ho : 11 ≤ o) (hp : 7 ≤ p) : HT (wb_in I o n i) (wb_in M p k m) J K := ht.cg (wbi_ge (Or.inl (by omega))) (wbi_ge (Or.inl (by omega))) (fun j h1 _ => wbi_ge (Or.inl (by omega))) rfl rfl (fun _ _ => rfl)
theorem er_sh {M K : Nat → Nat → Int32} {m : Nat → Nat → Int32} {p k : Nat} (er : EnR M K) (hp : 14 ≤ p) : EnR (wb_in M p k m) K := er.cg (wbi_ge (Or.inl (by omega))) rfl
/-- WHOSE: the SETS one behind another -/
theorem wo_l {N N2 : Nat} {x1 x2 x3 x4 x5 : Int32} {J : Nat → Int32} {L : Int64} {K : Nat → Nat → Int32} (h4 : 0 ≤ x3.toInt) (h5 : 0 ≤ x4.toInt) (h45 : x3.toInt + x4.toInt ≤ 1000000) : ∀ (fu fv y : Nat) (I : Nat → Int32) (M : Nat → Nat → Int32) (a b c a2 b2 c2 : Int32) R S, HT I M J K → EnR M K → (∀ j : Nat, -1 ≤ (M 13 j).toInt ∧ (M 13 j).toInt ≤ 389) → y ≤ 4 → ((y = 0 ∧ a = 1000 ∧ a2 = 999) ∨ (1 ≤ y ∧ a = a2 ∧ (0 ≤ a.toInt ∧ a.toInt ≤ 93) ∧ b = b2 ∧ c = c2)) → fX11_whose_L55 N x1 x2 x3 x4 x5 ((20 : Int32) * x1 + x2) fu I M a b c (nI y) = some R → fX12_whose_L50 N2 x1 x2 x3 x4 x5 fv J L K a2 b2 c2 (nI y) = some S → R.1 = S.1 ∧ S.2.1 = J := by
  have n4 : (4 : Int32).toInt = 4 := by decide
  intro fu
  induction fu with
  | zero => intro fv y I M a b c a2 b2 c2 R S ht er rg hy q h; cases (show none = some R from h)
  | succ fu ih =>
    intro fv y I M a b c a2 b2 c2 R S ht er rg hy q h g
    cases fv with
    | zero => cases (show none = some S from g)
    | succ fv =>
      rw [fX11_whose_L55.eq_2] at h
      rw [fX12_whose_L50.eq_2] at g
      have ty : (nI y).toInt = (y : Int) := nI_toInt (by omega)
      rcases ifr h with ⟨d, h⟩ | ⟨d, h⟩
      · have g := wb_t d g
        have d := (le32 n4 ty).mp d
        rcases q with ⟨q0, -⟩ | ⟨-, q1, -, q3, q4⟩
        · omega
        · rcases ifr h with ⟨e, h⟩ | ⟨e, h⟩
          · have g := wb_t e g
            rw [← Option.some.inj h, ← Option.some.inj g]
            exact ⟨q3, rfl⟩
          · have g := wb_f e g
            rcases ifr h with ⟨e2, h⟩ | ⟨e2, h⟩
            · have g := wb_t e2 g
              rw [← Option.some.inj h, ← Option.some.inj g]
              exact ⟨q1, rfl⟩
            · have g := wb_f e2 g
              rw [← Option.some.inj h, ← Option.some.inj g]
              exact ⟨q4, rfl⟩
      · have g := wb_f d g
        have d : ¬ _ := fun z => d ((le32 n4 ty).mpr z)
        obtain ⟨r7, f7, h⟩ := wb_b h
        obtain ⟨I8, e8, h⟩ := wb_v h
        obtain ⟨M9, e9, h⟩ := wb_v h
        obtain ⟨r10, f10, h⟩ := wb_b h
        obtain ⟨I11, e11, h⟩ := wb_v h
        obtain ⟨M12, e12, h⟩ := wb_v h
        obtain ⟨b0, b1, b2', b3, b4, b5, b6, b7⟩ := bg8 f7
        have ht8 : HT I8 M9 J K := by rw [e8, e9]; exact ht_sh ht (by omega) (by omega)
        have er8 : EnR M9 K := by rw [e9]; exact er_sh er (by omega)
        have rg8 : ∀ j : Nat, -1 ≤ (M9 13 j).toInt ∧ (M9 13 j).toInt ≤ 389 := by
          intro j
          rw [e9, wbi_ge (Or.inl (by omega))]
          exact rg j
        have at8 : ∀ k, k < 7 → wb_sh I8 20 k = r7.1 k := by
          intro k hk
          rw [e8]
          show wb_in I 20 7 r7.1 (k + 20) = r7.1 k
          rw [wbi_in (by omega) (by omega), Nat.add_sub_cancel]
        unfold fX8_goOn at f10
        have w := wh_l (N := N) (N2 := N2) (Ic := I8) (Mc := M9) (x5 := x5) rg8 ⟨by omega, by omega⟩ h4 h5 h45 ht8 er8 N N2 (wb_sh I8 20) (wb_sh M9 17) 0 999 x3 r10 S (by rw [at8 1 (by omega), b1]) (by rw [at8 2 (by omega), b2']) (by rw [at8 3 (by omega), b3]) (by decide) (by rw [ni0]; omega) (by rw [ni0]; omega) (Or.inl ⟨by decide, by rw [at8 4 (by omega), b4], rfl⟩) f10 g
        obtain ⟨w1, g⟩ := w
        have i24 : I11 24 = r10.2.1 4 := by
          rw [e11]
          exact wbi_in (by omega) (by omega)
        have ht11 : HT I11 M12 J K := by rw [e11, e12]; exact ht_sh ht8 (by omega) (by omega)
        have er11 : EnR M12 K := by rw [e12]; exact er_sh er8 (by omega)
        have rg11 : ∀ j : Nat, -1 ≤ (M12 13 j).toInt ∧ (M12 13 j).toInt ≤ 389 := by
          intro j
          rw [e12, wbi_ge (Or.inl (by omega))]
          exact rg8 j
        rw [i24] at h
        generalize r10.2.1 4 = its at w1 g h i24
        unfold fX11_whose_J121 at h
        unfold fX12_whose_J138 at g
        rw [i24] at h
        rcases ifr h with ⟨k, h⟩ | ⟨k, h⟩
        · -- no less than before: not the first SET
          have k := Int32.le_iff_toInt_le.mp k
          rcases q with ⟨-, q1, -⟩ | ⟨q0, q1, q2, q3, q4⟩
          · rw [q1, t1000] at k; omega
          · rw [← q1] at g
            rcases ifr h with ⟨e, h⟩ | ⟨e, h⟩
            · obtain ⟨v5, k5, h⟩ := wb_v h
              obtain ⟨v6, k6, h⟩ := wb_v h
              have g := wb_t (Int32.le_iff_toInt_le.mpr (by rw [e]; omega)) g
              have g := wb_t (Int32.le_iff_toInt_le.mpr k) g
              have g := wb_t (Int32.le_iff_toInt_le.mpr k) g
              obtain ⟨u5, l5, g⟩ := wb_v g
              rw [k5, k6, nI_1] at h
              rw [l5, nI_1] at g
              refine ih fv (y + 1) I11 M12 a b (c + 1) its b2 (c2 + 1) R S ht11 er11 rg11 (by omega) (Or.inr ⟨by omega, e.symm, q2, q3, by rw [q4]⟩) h g
            · obtain ⟨v4, k4, h⟩ := wb_v h
              have lt : a.toInt < its.toInt := by
                have : ¬ its.toInt = a.toInt := fun z => e (t32 z)
                omega
              have g := wb_f (fun z => by have := Int32.le_iff_toInt_le.mp z; omega) g
              obtain ⟨u5, l5, g⟩ := wb_v g
              rw [k4, nI_1] at h
              rw [l5, nI_1] at g
              exact ih fv (y + 1) I11 M12 a b c a b2 c2 R S ht11 er11 rg11 (by omega) (Or.inr ⟨by omega, rfl, q2, q3, q4⟩) h g
        · have k : ¬ _ := fun z => k (Int32.le_iff_toInt_le.mpr z)
          obtain ⟨v13, k13, h⟩ := wb_v h
          rw [k13] at h
          have h := wb_t rfl h
          obtain ⟨v5, k5, h⟩ := wb_v h
          obtain ⟨v6, k6, h⟩ := wb_v h
          have lt : its.toInt < a2.toInt := by
            rcases q with ⟨-, -, q2⟩ | ⟨-, q1, -⟩
            · rw [q2, t999]; omega
            · rw [← q1]; omega
          have g := wb_t (Int32.le_iff_toInt_le.mpr (by omega)) g
          have g := wb_f (fun z => by have := Int32.le_iff_toInt_le.mp z; omega) g
          have g := wb_f (fun z => by have := Int32.le_iff_toInt_le.mp z; omega) g
          obtain ⟨u6, l6, g⟩ := wb_v g
          rw [k5, k6, nI_1] at h
          rw [l6, nI_1] at g
          exact ih fv (y + 1) I11 M12 its (nI y) (0 + 1) its (nI y) 1 R S ht11 er11 rg11 (by omega) (Or.inr ⟨by omega, rfl, w1, rfl, by decide⟩) h g

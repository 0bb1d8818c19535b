theorem en_rg {N : Nat} {I : Nat → Int32} {M : Nat → Nat → Int32} {n e a : Int32} (rg : ∀ j : Nat, -1 ≤ (M 13 j).toInt ∧ (M 13 j).toInt ≤ 389) (h : fX1_degreeOf N I (wb_sh M 13) n e = some a) : -1 ≤ a.toInt ∧ a.toInt ≤ 389 := by
  unfold fX1_degreeOf at h
  obtain ⟨-, h⟩ := wb_n h
  rw [← Option.some.inj h]
  exact rg _
theorem rg_n {a : Int32} (h : -1 ≤ a.toInt ∧ a.toInt ≤ 389) (hn : ¬ a = -1) : 0 ≤ a.toInt ∧ a.toInt ≤ 389 := by
  refine ⟨Int.not_lt.mp (fun z => hn ?_), h.2⟩
  apply t32
  rw [show (-1 : Int32).toInt = -1 from by decide]
  omega
theorem lk_fX0_areOne_L6 {N N2 : Nat} {p q k : Int32}  {I J : Nat → Int32} {L : Int64} {M K : Nat → Nat → Int32} {hI : Nat → Int32} {I2 : Nat → Int32} {hm : Nat → Nat → Int32} (ht : HT I M J K) (er : EnR M K) (rg : ∀ j : Nat, -1 ≤ (M 13 j).toInt ∧ (M 13 j).toInt ≤ 389) (hm6 : hm 0 = M 6) : ∀ (fu fv : Nat) (l0 l1 a b : Int32), fX0_areOne_L6 N hI hm I2 (wb_sh M 13) p q k fu l0 l1 = some a → fX12_areSame_L6 N2 J L K p q k fv l0 l1 = some b → a = b := by
  intro fu
  induction fu with
  | zero => intro fv l0 l1 a b h; cases (show none = some a from h)
  | succ fu ih =>
    intro fv l0 l1 a b h g
    cases fv with
    | zero => cases (show none = some b from g)
    | succ fv =>
      rw [fX0_areOne_L6.eq_2] at h
      rw [fX12_areSame_L6.eq_2] at g
      rcases ifr h with ⟨c1, h⟩ | ⟨c1, h⟩
      · have g := wb_t c1 g
        rcases ifr h with ⟨c2, h⟩ | ⟨c2, h⟩
        · have g := wb_t c2 g
          exact (Option.some.inj h).symm.trans (Option.some.inj g)
        · have g := wb_f c2 g
          exact (Option.some.inj h).symm.trans (Option.some.inj g)
      · have g := wb_f c1 g
        obtain ⟨r3, e4, h⟩ := wb_b h
        obtain ⟨s5, d6, g⟩ := wb_b g
        have k7 := at_eq er e4 d6
        have rg_r3 := en_rg rg e4
        rw [← k7] at g
        obtain ⟨r8, e9, h⟩ := wb_b h
        obtain ⟨s10, d11, g⟩ := wb_b g
        have k12 := at_eq er e9 d11
        have rg_r8 := en_rg rg e9
        rw [← k12] at g
        rcases ifr h with ⟨c13, h⟩ | ⟨c13, h⟩
        · have g := wb_t c13 g
          obtain ⟨v14, e16, h⟩ := wb_v h
          obtain ⟨u15, d17, g⟩ := wb_v g
          rw [e16] at h
          rw [d17] at g
          exact ih fv _ _ a b h g
        · have g := wb_f c13 g
          rcases ifr h with ⟨c18, h⟩ | ⟨c18, h⟩
          · have g := wb_t c18 g
            obtain ⟨v19, e21, h⟩ := wb_v h
            obtain ⟨u20, d22, g⟩ := wb_v g
            rw [e21] at h
            rw [d22] at g
            exact ih fv _ _ a b h g
          · have g := wb_f c18 g
            obtain ⟨r23, e24, h⟩ := wb_b h
            obtain ⟨s25, d26, g⟩ := wb_b g
            have k27 := cst_eq ht hm6 (rg_n rg_r3 (by assumption)) (rg_n rg_r8 (by assumption)) e24 d26
            rw [← k27.1] at g
            rcases ifr h with ⟨c28, h⟩ | ⟨c28, h⟩
            · have g := wb_t c28 g
              obtain ⟨v29, e31, h⟩ := wb_v h
              obtain ⟨u30, d32, g⟩ := wb_v g
              rw [e31] at h
              rw [d32] at g
              obtain ⟨v33, e35, h⟩ := wb_v h
              obtain ⟨u34, d36, g⟩ := wb_v g
              rw [e35] at h
              rw [d36] at g
              exact ih fv _ _ a b h g
            · have g := wb_f c28 g
              obtain ⟨r37, e38, h⟩ := wb_b h
              obtain ⟨s39, d40, g⟩ := wb_b g
              have k41 := cst_eq ht hm6 (rg_n rg_r8 (by assumption)) (rg_n rg_r3 (by assumption)) e38 d40
              rw [← k41.1] at g
              rcases ifr h with ⟨c42, h⟩ | ⟨c42, h⟩
              · have g := wb_t c42 g
                obtain ⟨v43, e45, h⟩ := wb_v h
                obtain ⟨u44, d46, g⟩ := wb_v g
                rw [e45] at h
                rw [d46] at g
                obtain ⟨v47, e49, h⟩ := wb_v h
                obtain ⟨u48, d50, g⟩ := wb_v g
                rw [e49] at h
                rw [d50] at g
                exact ih fv _ _ a b h g
              · have g := wb_f c42 g
                exact (Option.some.inj h).symm.trans (Option.some.inj g)
theorem lk_fX0_areOne {N N2 : Nat} {p q k : Int32} {a b : Int32} {I J : Nat → Int32} {L : Int64} {M K : Nat → Nat → Int32} {hI : Nat → Int32} {I2 : Nat → Int32} {hm : Nat → Nat → Int32} (ht : HT I M J K) (er : EnR M K) (rg : ∀ j : Nat, -1 ≤ (M 13 j).toInt ∧ (M 13 j).toInt ≤ 389) (hm6 : hm 0 = M 6) (h : fX0_areOne N hI hm I2 (wb_sh M 13) p q k = some a) (g : fX12_areSame N2 J L K p q k = some b) : a = b := by
  unfold fX0_areOne at h
  unfold fX12_areSame at g
  exact lk_fX0_areOne_L6 ht er rg hm6 _ _ _ _ a b h g
theorem lk_fX10_priceOfEntry {N N2 : Nat} {e d1 d2 : Int32} {a b : Int32} {I J : Nat → Int32} {L : Int64} {M K : Nat → Nat → Int32} {hI : Nat → Int32} {hm : Nat → Nat → Int32} (ht : HT I M J K) (er : EnR M K) (rg : ∀ j : Nat, -1 ≤ (M 13 j).toInt ∧ (M 13 j).toInt ≤ 389) (hm6 : hm 0 = M 6) (rg_d1 : -1 ≤ d1.toInt ∧ d1.toInt ≤ 389) (rg_d2 : -1 ≤ d2.toInt ∧ d2.toInt ≤ 389) (h : fX10_priceOfEntry N hI hm e d1 d2 = some a) (g : fX12_priceOf N2 J L K d1 d2 e = some b) : a = b := by
  unfold fX10_priceOfEntry at h
  unfold fX12_priceOf at g
  rcases ifr h with ⟨c1, h⟩ | ⟨c1, h⟩
  · have g := wb_t c1 g
    exact (Option.some.inj h).symm.trans (Option.some.inj g)
  · have g := wb_f c1 g
    rcases ifr h with ⟨c2, h⟩ | ⟨c2, h⟩
    · have g := wb_t c2 g
      exact (Option.some.inj h).symm.trans (Option.some.inj g)
    · have g := wb_f c2 g
      rcases ifr h with ⟨c3, h⟩ | ⟨c3, h⟩
      · have g := wb_t c3 g
        exact (Option.some.inj h).symm.trans (Option.some.inj g)
      · have g := wb_f c3 g
        rcases ifr h with ⟨c4, h⟩ | ⟨c4, h⟩
        · have g := wb_t c4 g
          exact (Option.some.inj h).symm.trans (Option.some.inj g)
        · have g := wb_f c4 g
          obtain ⟨r5, e6, h⟩ := wb_b h
          obtain ⟨s7, d8, g⟩ := wb_b g
          have k9 := cst_eq ht hm6 (rg_n rg_d2 (by assumption)) (rg_n rg_d1 (by assumption)) e6 d8
          rw [← k9.1] at g
          rcases ifr h with ⟨c10, h⟩ | ⟨c10, h⟩
          · have g := wb_t c10 g
            exact (Option.some.inj h).symm.trans (Option.some.inj g)
          · have g := wb_f c10 g
            exact (Option.some.inj h).symm.trans (Option.some.inj g)
theorem lk_fX10_priceOf_L16 {N N2 : Nat} {p q w : Int32}  {I J : Nat → Int32} {L : Int64} {M K : Nat → Nat → Int32} {hI : Nat → Int32} {I2 : Nat → Int32} {hm : Nat → Nat → Int32} (ht : HT I M J K) (er : EnR M K) (rg : ∀ j : Nat, -1 ≤ (M 13 j).toInt ∧ (M 13 j).toInt ≤ 389) (hm6 : hm 0 = M 6) {c6 c5 : Int32 → Int32 → Option Int32} (hc : ∀ u v a b, c6 u v = some a → c5 u v = some b → a = b) : ∀ (fu fv : Nat) (l0 l1 a b : Int32), fX10_priceOf_L16 N hI hm I2 (wb_sh M 13) p q w c6 fu l0 l1 = some a → fX12_priceAll_L15 N2 J L K p q w c5 fv l0 l1 = some b → a = b := by
  intro fu
  induction fu with
  | zero => intro fv l0 l1 a b h; cases (show none = some a from h)
  | succ fu ih =>
    intro fv l0 l1 a b h g
    cases fv with
    | zero => cases (show none = some b from g)
    | succ fv =>
      rw [fX10_priceOf_L16.eq_2] at h
      rw [fX12_priceAll_L15.eq_2] at g
      rcases ifr h with ⟨c1, h⟩ | ⟨c1, h⟩
      · have g := wb_t c1 g
        obtain ⟨v2, e4, h⟩ := wb_v h
        obtain ⟨u3, d5, g⟩ := wb_v g
        rw [e4] at h
        rw [d5] at g
        exact hc _ _ a b h g
      · have g := wb_f c1 g
        obtain ⟨r6, e7, h⟩ := wb_b h
        obtain ⟨s8, d9, g⟩ := wb_b g
        have k10 := at_eq er e7 d9
        have rg_r6 := en_rg rg e7
        rw [← k10] at g
        obtain ⟨r11, e12, h⟩ := wb_b h
        obtain ⟨s13, d14, g⟩ := wb_b g
        have k15 := at_eq er e12 d14
        have rg_r11 := en_rg rg e12
        rw [← k15] at g
        obtain ⟨r16, e17, h⟩ := wb_b h
        obtain ⟨s18, d19, g⟩ := wb_b g
        have k20 := lk_fX10_priceOfEntry ht er rg hm6 rg_r6 rg_r11 e17 d19
        rw [← k20] at g
        obtain ⟨v21, e23, h⟩ := wb_v h
        obtain ⟨u22, d24, g⟩ := wb_v g
        rw [e23] at h
        rw [d24] at g
        obtain ⟨v25, e27, h⟩ := wb_v h
        obtain ⟨u26, d28, g⟩ := wb_v g
        rw [e27] at h
        rw [d28] at g
        exact ih fv _ _ a b h g
theorem lk_fX10_priceOf_L6 {N N2 : Nat} {p q : Int32}  {I J : Nat → Int32} {L : Int64} {M K : Nat → Nat → Int32} {hI : Nat → Int32} {I2 : Nat → Int32} {hm : Nat → Nat → Int32} (ht : HT I M J K) (er : EnR M K) (rg : ∀ j : Nat, -1 ≤ (M 13 j).toInt ∧ (M 13 j).toInt ≤ 389) (hm6 : hm 0 = M 6) : ∀ (fu fv : Nat) (l0 l1 a b : Int32), fX10_priceOf_L6 N hI hm I2 (wb_sh M 13) p q fu l0 l1 = some a → fX12_priceAll_L5 N2 J L K p q fv l0 l1 = some b → a = b := by
  intro fu
  induction fu with
  | zero => intro fv l0 l1 a b h; cases (show none = some a from h)
  | succ fu ih =>
    intro fv l0 l1 a b h g
    cases fv with
    | zero => cases (show none = some b from g)
    | succ fv =>
      rw [fX10_priceOf_L6.eq_2] at h
      rw [fX12_priceAll_L5.eq_2] at g
      rcases ifr h with ⟨c1, h⟩ | ⟨c1, h⟩
      · have g := wb_t c1 g
        exact (Option.some.inj h).symm.trans (Option.some.inj g)
      · have g := wb_f c1 g
        refine lk_fX10_priceOf_L16 ht er rg hm6 (fun u v a b h g => ?_) _ _ _ _ a b h g
        exact ih fv u v a b h g
theorem lk_fX10_priceOf {N N2 : Nat} {p q : Int32} {a b : Int32} {I J : Nat → Int32} {L : Int64} {M K : Nat → Nat → Int32} {hI : Nat → Int32} {I2 : Nat → Int32} {hm : Nat → Nat → Int32} (ht : HT I M J K) (er : EnR M K) (rg : ∀ j : Nat, -1 ≤ (M 13 j).toInt ∧ (M 13 j).toInt ≤ 389) (hm6 : hm 0 = M 6) (h : fX10_priceOf N hI hm I2 (wb_sh M 13) p q = some a) (g : fX12_priceAll N2 J L K p q = some b) : a = b := by
  unfold fX10_priceOf at h
  unfold fX12_priceAll at g
  exact lk_fX10_priceOf_L6 ht er rg hm6 _ _ _ _ a b h g

/-! BEST of both -/
theorem t1000 : (1000 : Int32).toInt = 1000 := by decide
theorem t999 : (999 : Int32).toInt = 999 := by decide
/-! WHOSE of both -/
theorem wh_l {N N2 : Nat} {Ic : Nat → Int32} {Mc : Nat → Nat → Int32} {I2 : Nat → Int32} {x1 x2 x3 x4 x5 y6 y7 y8 y9 : Int32} {gg : (Nat → Int32) → Int64 → (Nat → Nat → Int32) → Int32 → Int32 → Int32 → Int32 → Option (Int32 × (Nat → Int32) × Int64 × (Nat → Nat → Int32))} {J : Nat → Int32} {L : Int64} {K : Nat → Nat → Int32} (rg : ∀ j : Nat, -1 ≤ (Mc 13 j).toInt ∧ (Mc 13 j).toInt ≤ 389) (h9 : 0 ≤ y9.toInt ∧ y9.toInt ≤ 3) (h4 : 0 ≤ x3.toInt) (h5 : 0 ≤ x4.toInt) (h45 : x3.toInt + x4.toInt ≤ 1000000) (ht : HT Ic Mc J K) (er : EnR Mc K) : ∀ (fu fv : Nat) (I : Nat → Int32) (M : Nat → Nat → Int32) (y its d : Int32) R S, I 1 = (20 : Int32) * x1 + x2 → I 2 = y9 → I 3 = d → 0 ≤ y.toInt → d.toInt = x3.toInt + y.toInt → y.toInt ≤ x4.toInt + 1 → ((y.toInt = 0 ∧ I 4 = 1000 ∧ its = 999) ∨ (I 4 = its ∧ 0 ≤ its.toInt ∧ its.toInt ≤ 93)) → fX8_goOn_L3 N (wb_sh Ic 9) (wb_sh Mc 1) I2 (wb_sh Mc 13) (x4 + 1) fu I M y = some R → fX12_whose_L64 N2 x1 x2 x3 x4 x5 y6 y7 y8 y9 gg fv J L K its d = some S → (0 ≤ (R.2.1 4).toInt ∧ (R.2.1 4).toInt ≤ 93) ∧ (if R.2.1 4 ≤ y6 then (if y6 ≤ R.2.1 4 then (fX12_whose_J138 N2 x1 x2 x3 x4 x5 gg J L K y6 y7 y9 (R.2.1 4) (y8 + (1 : Int32))) else fX12_whose_J138 N2 x1 x2 x3 x4 x5 gg J L K y6 y7 y9 (R.2.1 4) (1 : Int32)) else (some (y9 + (1 : Int32))).bind fun v7 => gg J L K y6 y7 y8 v7) = some S := by
  have t45 := ia_add x3 x4 (by omega) (by omega)
  have t5 := p1i (x := x4) (by omega)
  intro fu
  induction fu with
  | zero => intro fv I M y its d R S i1 i2 i3 y0 hd yx q h; cases (show none = some R from h)
  | succ fu ih =>
    intro fv I M y its d R S i1 i2 i3 y0 hd yx q h g
    cases fv with
    | zero => cases (show none = some S from g)
    | succ fv =>
      rw [fX8_goOn_L3.eq_2] at h
      rw [fX12_whose_L64.eq_2] at g
      rcases ifr h with ⟨c, h⟩ | ⟨c, h⟩
      · have c := (le32 t5 rfl).mp c
        have g := wb_t ((lt32 t45 hd).mpr (by omega)) g
        have h := Option.some.inj h
        rw [← h]
        rcases q with ⟨z, -⟩ | ⟨a1, a2⟩
        · omega
        · show (0 ≤ (I 4).toInt ∧ (I 4).toInt ≤ 93) ∧ (if I 4 ≤ y6 then (if y6 ≤ I 4 then (fX12_whose_J138 N2 x1 x2 x3 x4 x5 gg J L K y6 y7 y9 (I 4) (y8 + (1 : Int32))) else fX12_whose_J138 N2 x1 x2 x3 x4 x5 gg J L K y6 y7 y9 (I 4) (1 : Int32)) else (some (y9 + (1 : Int32))).bind fun v7 => gg J L K y6 y7 y8 v7) = some S
          rw [a1]
          exact ⟨a2, g⟩
      · have c : ¬ _ := fun z => c ((le32 t5 rfl).mpr z)
        have g := wb_f (fun z => by have := (lt32 t45 hd).mp z; omega) g
        have h := wb_f (fun z => by have := (lt32 ni1e6 rfl).mp z; rw [i3] at this; omega) h
        obtain ⟨r1, f1, h⟩ := wb_b h
        obtain ⟨r2, f2, h⟩ := wb_b h
        obtain ⟨I3, eI3, h⟩ := wb_v h
        obtain ⟨w4, ew4, h⟩ := wb_v h
        obtain ⟨s1, d1, g⟩ := wb_b g
        have hb : BN (I 4) its := by
          rcases q with ⟨-, a1, a2⟩ | ⟨a1, -⟩
          · exact Or.inr ⟨by rw [a1]; decide, by rw [a2]; decide⟩
          · exact Or.inl a1
        rw [i1, i2, i3] at f1
        obtain ⟨e, z0, z1⟩ := co_eq ht er rg h9 ⟨by omega, by omega⟩ hb f1 d1
        rw [← e] at g
        clear f1 d1 e
        have td := p1i (x := d) (by omega)
        have ty := p1i (x := y) (by omega)
        rw [eI3, ew4] at h
        have go : ∀ its' : Int32, r2.1 1 = I 1 → r2.1 2 = I 2 → r2.1 3 = I 3 → r2.1 4 = its' → 0 ≤ its'.toInt → its'.toInt ≤ 93 → fX12_whose_L64 N2 x1 x2 x3 x4 x5 y6 y7 y8 y9 gg fv J L K its' (d + 1) = some S → (0 ≤ (R.2.1 4).toInt ∧ (R.2.1 4).toInt ≤ 93) ∧ (if R.2.1 4 ≤ y6 then (if y6 ≤ R.2.1 4 then (fX12_whose_J138 N2 x1 x2 x3 x4 x5 gg J L K y6 y7 y9 (R.2.1 4) (y8 + (1 : Int32))) else fX12_whose_J138 N2 x1 x2 x3 x4 x5 gg J L K y6 y7 y9 (R.2.1 4) (1 : Int32)) else (some (y9 + (1 : Int32))).bind fun v7 => gg J L K y6 y7 y8 v7) = some S := by
          intro its' p1 p2 p3 p4 l0 l1 g
          exact ih fv (upd r2.1 3 (r2.1 3 + 1)) r2.2 (y + 1) its' (d + 1) R S (by show r2.1 1 = _; rw [p1, i1]) (by show r2.1 2 = _; rw [p2, i2]) (by show r2.1 3 + 1 = _; rw [p3, i3]) (by omega) (by omega) (by omega) (Or.inr ⟨p4, l0, l1⟩) h g
        rcases la8 f2 with ⟨c1, e⟩ | ⟨c1, c2, e, -⟩ | ⟨c1, c2, e, -⟩
        · have c1 : ¬ _ := fun z => c1 (Int32.le_iff_toInt_le.mpr z)
          rcases q with ⟨-, a1, -⟩ | ⟨a1, a2, a3⟩
          · rw [a1, t1000] at c1; omega
          · have g := wb_t (Int32.le_iff_toInt_le.mpr (by rw [← a1]; omega)) g
            obtain ⟨v, ev, g⟩ := wb_v g
            rw [ev] at g
            exact go its (by rw [e]) (by rw [e]) (by rw [e]) (by rw [e]; exact a1) a2 a3 g
        · have c1 := Int32.le_iff_toInt_le.mp c1
          have c2 := Int32.le_iff_toInt_le.mp c2
          rcases q with ⟨-, a1, -⟩ | ⟨a1, a2, a3⟩
          · rw [a1, t1000] at c2; omega
          · have g := wb_t (Int32.le_iff_toInt_le.mpr (by rw [← a1]; omega)) g
            obtain ⟨v, ev, g⟩ := wb_v g
            rw [ev] at g
            exact go its (by rw [e]; rfl) (by rw [e]; rfl) (by rw [e]; rfl) (by rw [e]; exact a1) a2 a3 g
        · have c2 : ¬ _ := fun z => c2 (Int32.le_iff_toInt_le.mpr z)
          have g := wb_f (fun z => by
            have z := Int32.le_iff_toInt_le.mp z
            rcases q with ⟨-, -, a2⟩ | ⟨a1, -⟩
            · rw [a2, t999] at z; omega
            · rw [← a1] at z; omega) g
          obtain ⟨v, ev, g⟩ := wb_v g
          rw [ev] at g
          exact go r1 (by rw [e]; rfl) (by rw [e]; rfl) (by rw [e]; rfl) (by rw [e]; rfl) z0 z1 g

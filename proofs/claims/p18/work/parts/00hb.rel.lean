theorem dif32 {a b : Int32} (ha : 0 ≤ a.toInt) (hb : 0 ≤ b.toInt) : (a - b).toInt = a.toInt - b.toInt := by
  have h1 := Int32.toInt_lt a
  have h2 := Int32.toInt_lt b
  exact ia_sub a b (by omega) (by omega)
theorem lp_let {N N2 : Nat} {M K : Nat → Nat → Int32} : ∀ (fu fv : Nat) (I J : Nat → Int32) (L : Int64) R S, fX9_step_L86 N fu I M = some R → fX12_steps_L103 N2 fv J L K = some S → TQ I J M K → I 2 = J 9 → 0 ≤ (I 2).toInt → (I 2).toInt ≤ (I 3).toInt → I 4 = 1 → TW I L M → TK R.1 S.1 S.2.1 M K := by
  intro fu
  induction fu with
  | zero => intro fv I J L R S h; cases (show none = some R from h)
  | succ fu ih =>
    intro fv I J L R S h g q e2 h0 h1 h4 w
    cases fv with
    | zero => cases (show none = some S from g)
    | succ fv =>
      rw [fX9_step_L86.eq_2] at h
      rw [fX12_steps_L103.eq_2] at g
      obtain ⟨r17, e17, g⟩ := wb_b g
      obtain ⟨r18, e18, g⟩ := wb_b g
      have fin : R = (I, M) → r18 = 0 → TK R.1 S.1 S.2.1 M K := by
        intro eR e0
        subst eR
        have g := wb_t e0 g
        obtain ⟨J1, eJ, g⟩ := wb_v g
        unfold fX12_steps_J279 at g
        obtain ⟨J2, eJ2, g⟩ := wb_v g
        have g := Option.some.inj g
        subst g; subst eJ2; subst eJ
        obtain ⟨a1, a2, a3, a4, a5, a6⟩ := q
        refine ⟨⟨a1, a2, a3, a4, a5, a6⟩, e2, h4, h0, h1, rfl, ?_, fun _ => w⟩
        intro q4
        have q4 : I 4 = 2 := q4
        rw [h4] at q4
        exact absurd q4 (by decide)
      have qa := q
      obtain ⟨a1, a2, a3, a4, a5, a6⟩ := qa
      rcases ifr h with ⟨c, h⟩ | ⟨c, h⟩
      · have c := (le32 rfl rfl).mp c
        rcases bat e17 with ⟨b1, b2⟩ | ⟨b1, b2, b3⟩
        · rcases let12 e18 with ⟨b4, b5⟩ | ⟨b4, b5⟩
          · exact fin (Option.some.inj h).symm b4
          · exfalso
            rw [b2] at b5
            exact absurd b5.1 (by decide)
        · exfalso
          rw [← a1, ← a2] at b1
          omega
      · have c : ¬ _ := fun z => c ((le32 rfl rfl).mpr z)
        have hc : (I 3).toInt < (I 1).toInt := by omega
        obtain ⟨-, h⟩ := wb_n h
        obtain ⟨r12, e12, h⟩ := wb_b h
        have B := q.byte hc
        have e17' : r17 = K 8 (I 3).toInt.toNat := by
          rcases bat e17 with ⟨b1, b2⟩ | ⟨b1, b2, b3⟩
          · exfalso
            rw [← a1, ← a2] at b1
            omega
          · rw [b3, ← a2]
        rcases let9 e12 with ⟨b4, b5⟩ | ⟨b4, b5⟩
        · have h := wb_t b4 h
          rcases let12 e18 with ⟨b6, b7⟩ | ⟨b6, b7⟩
          · exact fin (Option.some.inj h).symm b6
          · exfalso
            apply b5
            rw [e17'] at b7
            exact (B.rg 97 122 (by omega) (by omega)).mpr b7
        · have h := wb_f (by rw [b4]; decide) h
          rcases let12 e18 with ⟨b6, b7⟩ | ⟨b6, b7⟩
          · exfalso
            apply b7
            rw [e17']
            exact (B.rg 97 122 (by omega) (by omega)).mp b5
          · have g := wb_f (by rw [b6]; decide) g
            obtain ⟨I', eI, h⟩ := wb_v h
            have i2 : I' 2 = I 2 := by rw [eI]; rfl
            have w1 : ∀ j : Nat, (I 2).toInt ≤ (j : Int) → (j : Int) < (I 3).toInt + 1 → cL (M 0 j) := by
              intro j j0 j1
              by_cases hj : (j : Int) < (I 3).toInt
              · exact w.1 j j0 hj
              · have ej : j = (I 3).toInt.toNat := by omega
                rw [ej]; exact b5
            have dd : (J 7 - J 9).toInt = (I 3).toInt - (I 2).toInt := by
              rw [← a2, ← e2]
              exact dif32 a3 h0
            rcases ifr g with ⟨d, g⟩ | ⟨d, g⟩
            · have d := (le32 (x := 8) (by decide) dd).mp d
              obtain ⟨J', eJ, g⟩ := wb_v g
              obtain ⟨q', e'⟩ := q.adv hc (I' := I') (J' := J') (by rw [eI]; rfl) (by rw [eI]; rfl) (by rw [eJ]; rfl) (by rw [eJ]; rfl)
              refine ih fv I' J' L R S h g q' (by rw [i2, eJ]; exact e2) (by rw [i2]; exact h0) (by rw [i2, e']; omega) (by rw [eI]; exact h4) ⟨?_, ?_⟩
              · rw [i2, e']; exact w1
              · rw [i2, e']; intro d2; exfalso; omega
            · have d : ¬ _ := fun z => d ((le32 (x := 8) (by decide) dd).mpr z)
              obtain ⟨r21, e21, g⟩ := wb_b g
              obtain ⟨L', eL, g⟩ := wb_v g
              obtain ⟨J', eJ, g⟩ := wb_v g
              have e21' : r21 = r17 := Option.some.inj (e21.symm.trans e17)
              obtain ⟨q', e'⟩ := q.adv hc (I' := I') (J' := J') (by rw [eI]; rfl) (by rw [eI]; rfl) (by rw [eJ]; rfl) (by rw [eJ]; rfl)
              refine ih fv I' J' L' R S h g q' (by rw [i2, eJ]; exact e2) (by rw [i2]; exact h0) (by rw [i2, e']; omega) (by rw [eI]; exact h4) ⟨?_, ?_⟩
              · rw [i2, e']; exact w1
              · rw [i2, e']
                intro d2
                have ew := w.2 (by omega)
                have en : ((I 3).toInt + 1 - (I 2).toInt).toNat = ((I 3).toInt - (I 2).toInt).toNat + 1 := by omega
                have rg := pk_rg (fun j => (M 0 j).toInt) (I 2).toInt.toNat ((I 3).toInt - (I 2).toInt).toNat (fun i hi => by
                  have := w.1 ((I 2).toInt.toNat + i) (by omega) (by omega)
                  exact this)
                have hp : (32 : Int) ^ ((I 3).toInt - (I 2).toInt).toNat ≤ 32 ^ 8 := by
                  exact (by decide : ∀ k, k < 9 → (32 : Int) ^ k ≤ 32 ^ 8) _ (by omega)
                obtain ⟨n, en2⟩ := Int.eq_ofNat_of_zero_le rg.1
                have b7' : cL r21 := by rw [e21']; exact b7
                have hm : M 0 (I 3).toInt.toNat = r21 := by
                  rw [e21', e17']
                  exact B.same (by rw [← e17']; unfold cL at b7; omega)
                have ed : (r21 - 96).toInt = r21.toInt - 96 := by
                  unfold cL at b7'
                  have := ia_sub r21 96 (by rw [show (96 : Int32).toInt = 96 from by decide]; omega) (by rw [show (96 : Int32).toInt = 96 from by decide]; omega)
                  rw [this, show (96 : Int32).toInt = 96 from by decide]
                have el := lsh5 (L := L) (n := n) (d := (r21.toInt - 96).toNat) (by rw [ew, en2]) (by
                  have : (32 : Int) ^ 8 = 2 ^ 40 := by decide
                  have h9 := rg.2
                  rw [en2] at h9
                  omega) (by unfold cL at b7'; omega) (x := r21 - 96) (by rw [ed]; unfold cL at b7'; omega)
                rw [eL, el, en]
                show _ = 32 * pk _ _ _ + ((M 0 _).toInt - 96)
                rw [en2]
                have es : (I 2).toInt.toNat + ((I 3).toInt - (I 2).toInt).toNat = (I 3).toInt.toNat := by omega
                rw [es, hm]
                unfold cL at b7'
                omega
theorem lp_dig {N N2 : Nat} {M K : Nat → Nat → Int32} : ∀ (fu fv : Nat) (I J : Nat → Int32) (L : Int64) R S, fX9_step_L150 N fu I M = some R → fX12_steps_L182 N2 fv J L K = some S → TQ I J M K → I 2 = J 9 → 0 ≤ (I 2).toInt → (I 2).toInt ≤ (I 3).toInt → I 4 = 2 → I 5 = J 11 → TK R.1 S.1 S.2.1 M K := by
  intro fu
  induction fu with
  | zero => intro fv I J L R S h; cases (show none = some R from h)
  | succ fu ih =>
    intro fv I J L R S h g q e2 h0 h1 h4 w
    cases fv with
    | zero => cases (show none = some S from g)
    | succ fv =>
      rw [fX9_step_L150.eq_2] at h
      rw [fX12_steps_L182.eq_2] at g
      obtain ⟨r17, e17, g⟩ := wb_b g
      obtain ⟨r18, e18, g⟩ := wb_b g
      have fin : R = (I, M) → r18 = 0 → TK R.1 S.1 S.2.1 M K := by
        intro eR e0
        subst eR
        have g := wb_t e0 g
        obtain ⟨J1, eJ, g⟩ := wb_v g
        unfold fX12_steps_J279 at g
        obtain ⟨J2, eJ2, g⟩ := wb_v g
        have g := Option.some.inj g
        subst g; subst eJ2; subst eJ
        obtain ⟨a1, a2, a3, a4, a5, a6⟩ := q
        refine ⟨⟨a1, a2, a3, a4, a5, a6⟩, e2, h4, h0, h1, rfl, fun _ => w, ?_⟩
        intro q4
        have q4 : I 4 = 1 := q4
        rw [h4] at q4
        exact absurd q4 (by decide)
      have qa := q
      obtain ⟨a1, a2, a3, a4, a5, a6⟩ := qa
      rcases ifr h with ⟨c, h⟩ | ⟨c, h⟩
      · have c := (le32 rfl rfl).mp c
        rcases bat e17 with ⟨b1, b2⟩ | ⟨b1, b2, b3⟩
        · rcases dig12 e18 with ⟨b4, b5⟩ | ⟨b4, b5⟩
          · exact fin (Option.some.inj h).symm b4
          · exfalso
            rw [b2] at b5
            exact absurd b5.1 (by decide)
        · exfalso
          rw [← a1, ← a2] at b1
          omega
      · have c : ¬ _ := fun z => c ((le32 rfl rfl).mpr z)
        have hc : (I 3).toInt < (I 1).toInt := by omega
        obtain ⟨-, h⟩ := wb_n h
        obtain ⟨r12, e12, h⟩ := wb_b h
        have B := q.byte hc
        have e17' : r17 = K 8 (I 3).toInt.toNat := by
          rcases bat e17 with ⟨b1, b2⟩ | ⟨b1, b2, b3⟩
          · exfalso
            rw [← a1, ← a2] at b1
            omega
          · rw [b3, ← a2]
        rcases dig9 e12 with ⟨b4, b5⟩ | ⟨b4, b5⟩
        · have h := wb_t b4 h
          rcases dig12 e18 with ⟨b6, b7⟩ | ⟨b6, b7⟩
          · exact fin (Option.some.inj h).symm b6
          · exfalso
            apply b5
            rw [e17'] at b7
            exact (B.rg 48 57 (by omega) (by omega)).mpr b7
        · have h := wb_f (by rw [b4]; decide) h
          rcases dig12 e18 with ⟨b6, b7⟩ | ⟨b6, b7⟩
          · exfalso
            apply b7
            rw [e17']
            exact (B.rg 48 57 (by omega) (by omega)).mp b5
          · have g := wb_f (by rw [b6]; decide) g
            have hm : M 0 (I 3).toInt.toNat = r17 := by
              rw [e17']
              exact B.same (by rw [← e17']; unfold cD at b7; omega)
            have eqd : I 3 - I 2 = J 7 - J 9 := by rw [a2, e2]
            rw [eqd] at h
            rcases ifr h with ⟨d, h⟩ | ⟨d, h⟩
            · have g := wb_t d g
              obtain ⟨J', eJ, g⟩ := wb_v g
              unfold fX9_step_J218 at h
              obtain ⟨I1, eI1, h⟩ := wb_v h
              obtain ⟨I', eI, h⟩ := wb_v h
              rw [eI1] at eI
              have i2 : I' 2 = I 2 := by rw [eI]; rfl
              obtain ⟨q', e'⟩ := q.adv hc (I' := I') (J' := J') (by rw [eI]; rfl) (by rw [eI]; rfl) (by rw [eJ]; rfl) (by rw [eJ]; rfl)
              exact ih fv I' J' L R S h g q' (by rw [i2, eJ]; exact e2) (by rw [i2]; exact h0) (by rw [i2, e']; omega) (by rw [eI]; exact h4) (by rw [eI, eJ]; exact w)
            · have g := wb_f d g
              obtain ⟨r14, e14, g⟩ := wb_b g
              have e14' : r14 = r17 := Option.some.inj (e14.symm.trans e17)
              obtain ⟨J1, eJ1, g⟩ := wb_v g
              obtain ⟨J', eJ, g⟩ := wb_v g
              rw [eJ1] at eJ
              obtain ⟨-, h⟩ := wb_n h
              unfold fX9_step_J218 at h
              obtain ⟨I1, eI1, h⟩ := wb_v h
              obtain ⟨I', eI, h⟩ := wb_v h
              rw [eI1] at eI
              have i2 : I' 2 = I 2 := by rw [eI]; rfl
              obtain ⟨q', e'⟩ := q.adv hc (I' := I') (J' := J') (by rw [eI]; rfl) (by rw [eI]; rfl) (by rw [eJ]; rfl) (by rw [eJ]; rfl)
              refine ih fv I' J' L R S h g q' (by rw [i2, eJ]; exact e2) (by rw [i2]; exact h0) (by rw [i2, e']; omega) (by rw [eI]; exact h4) ?_
              rw [eI, eJ]
              show ((10 : Int32) * (I 5)) + (M 0 (I 3).toNatClampNeg) - 48 = ((10 : Int32) * (J 11)) + r14 - 48
              rw [w, e14', ← hm]
              rfl
theorem blk9 {N : Nat} {x r : Int32} (h : fX9_isBlank N x = some r) : (r = 1 ∧ (x = 32 ∨ x = 10)) ∨ (r = 0 ∧ ¬ x = 32 ∧ ¬ x = 10) := by
  unfold fX9_isBlank at h
  rcases ifr h with ⟨c, h⟩ | ⟨c, h⟩
  · exact Or.inl ⟨(Option.some.inj h).symm, Or.inl c⟩
  · rcases ifr h with ⟨d, h⟩ | ⟨d, h⟩
    · exact Or.inl ⟨(Option.some.inj h).symm, Or.inr d⟩
    · exact Or.inr ⟨(Option.some.inj h).symm, c, d⟩

theorem stj {N N2 : Nat} {M K : Nat → Nat → Int32} {I J : Nat → Int32} {L : Int64} {R : (Nat → Int32) × (Nat → Nat → Int32)} {S : (Nat → Int32) × Int64 × (Nat → Nat → Int32)} (h : fX9_step_J39 N I M = some R) (g : fX12_steps_J50 N2 J L K = some S) (q : TQ I J M K) : TK R.1 S.1 S.2.1 M K := by
  unfold fX9_step_J39 at h
  unfold fX12_steps_J50 at g
  obtain ⟨I3, eI3, h⟩ := wb_v h
  obtain ⟨J3, eJ3, g⟩ := wb_v g
  obtain ⟨L4, eL4, g⟩ := wb_v g
  obtain ⟨J5, eJ5, g⟩ := wb_v g
  rw [eJ3] at eJ5
  obtain ⟨r6, e6, g⟩ := wb_b g
  obtain ⟨a1, a2, a3, a4, a5, a6⟩ := q
  have i1 : I3 1 = I 1 := by rw [eI3]; rfl
  have i2 : I3 2 = I 3 := by rw [eI3]; rfl
  have i3 : I3 3 = I 3 := by rw [eI3]; rfl
  have j6 : J5 6 = J 6 := by rw [eJ5]; rfl
  have j7 : J5 7 = J 7 := by rw [eJ5]; rfl
  have j9 : J5 9 = J 7 := by rw [eJ5]; rfl
  have j11 : J5 11 = 0 := by rw [eJ5]; rfl
  have q : TQ I3 J5 M K := ⟨by rw [i1, j6, a1], by rw [i3, j7, a2], by rw [i3]; exact a3, by rw [i3, i1]; exact a4, by rw [i1]; exact a5, by rw [i1]; exact a6⟩
  have e29 : I3 2 = J5 9 := by rw [i2, j9, a2]
  rcases ifr h with ⟨c, h⟩ | ⟨c, h⟩
  · have hc : (I3 3).toInt < (I3 1).toInt := (lt32 rfl rfl).mp c
    have cg : J5 7 < J5 6 := by rw [j7, j6, ← a1, ← a2, ← i1, ← i3]; exact c
    have g := wb_t cg g
    obtain ⟨-, h⟩ := wb_n h
    have B := q.byte hc
    have e6' : r6 = K 8 (I3 3).toInt.toNat := by
      rcases bat e6 with ⟨b1, b2⟩ | ⟨b1, b2, b3⟩
      · exfalso
        have := (lt32 rfl rfl).mp cg
        omega
      · rw [b3, j7, ← a2, ← i3]
    obtain ⟨r4, e4, h⟩ := wb_b h
    obtain ⟨r7, e7, g⟩ := wb_b g
    rcases let9 e4 with ⟨b4, b5⟩ | ⟨b4, b5⟩
    · have h := wb_t b4 h
      rcases let12 e7 with ⟨b6, b7⟩ | ⟨b6, b7⟩
      · have g := wb_t b6 g
        obtain ⟨-, h⟩ := wb_n h
        obtain ⟨r5, e5, h⟩ := wb_b h
        obtain ⟨r8, e8, g⟩ := wb_b g
        rcases dig9 e5 with ⟨b8, b9⟩ | ⟨b8, b9⟩
        · have h := wb_t b8 h
          rcases dig12 e8 with ⟨b10, b11⟩ | ⟨b10, b11⟩
          · have g := wb_t b10 g
            obtain ⟨-, h⟩ := wb_n h
            obtain ⟨J9, eJ9, g⟩ := wb_v g
            have key : ∀ (z : Int32), z ≠ 1 → z ≠ 2 → fX9_step_J254 N I3 M z = some R → fX12_steps_J276 N2 J9 L4 K z = some S → TK R.1 S.1 S.2.1 M K := by
              intro z z1 z2 h g
              unfold fX9_step_J254 at h
              unfold fX12_steps_J276 fX12_steps_J279 at g
              obtain ⟨I1, eI1, h⟩ := wb_v h
              obtain ⟨I', eI', h⟩ := wb_v h
              obtain ⟨J1, eJ1, g⟩ := wb_v g
              obtain ⟨J', eJ', g⟩ := wb_v g
              have h := Option.some.inj h
              have g := Option.some.inj g
              subst h; subst g
              rw [eI1] at eI'
              rw [eJ1, eJ9] at eJ'
              obtain ⟨q', e'⟩ := q.adv hc (I' := I') (J' := J') (by rw [eI']; rfl) (by rw [eI']; rfl) (by rw [eJ']; rfl) (by rw [eJ']; rfl)
              have k2 : I' 2 = I3 2 := by rw [eI']; rfl
              have k4 : I' 4 = z := by rw [eI']; rfl
              refine ⟨q', ?_, ?_, ?_, ?_, ?_, ?_, ?_⟩
              · show I' 2 = J' 9
                rw [k2, e29, eJ']; rfl
              · show I' 4 = J' 8
                rw [k4, eJ']; rfl
              · show 0 ≤ (I' 2).toInt
                rw [k2, i2]; exact a3
              · show (I' 2).toInt ≤ (I' 3).toInt
                rw [k2, e', i2, i3]; omega
              · show J' 10 = J' 7 - J' 9
                rw [eJ']; rfl
              · intro q4
                exact absurd (k4.symm.trans q4) z2
              · intro q4
                exact absurd (k4.symm.trans q4) z1
            have e59 : (M 0 (I3 3).toNatClampNeg = 59) ↔ r6 = 59 := by
              rw [e6']
              exact B.eq (by decide) (by decide)
            rcases ifr h with ⟨c2, h⟩ | ⟨c2, h⟩
            · exact key 3 (by decide) (by decide) h (wb_t (e59.mp c2) g)
            · exact key 4 (by decide) (by decide) h (wb_f (fun z => c2 (e59.mpr z)) g)
          · exfalso
            apply b9
            rw [e6'] at b11
            exact (B.rg 48 57 (by omega) (by omega)).mpr b11
        · have h := wb_f (by rw [b8]; decide) h
          rcases dig12 e8 with ⟨b10, b11⟩ | ⟨b10, b11⟩
          · exfalso
            apply b11
            rw [e6']
            exact (B.rg 48 57 (by omega) (by omega)).mp b9
          · have g := wb_f (by rw [b10]; decide) g
            obtain ⟨I6, eI6, h⟩ := wb_v h
            obtain ⟨I7, eI7, h⟩ := wb_v h
            rw [eI6] at eI7
            have l1 : I7 1 = I3 1 := by rw [eI7]; rfl
            have l2 : I7 2 = I3 2 := by rw [eI7]; rfl
            have l3 : I7 3 = I3 3 := by rw [eI7]; rfl
            obtain ⟨q1, q2, q3, q4, q5, q6⟩ := q
            refine lp_dig N N2 I7 J5 L4 R S h g ⟨by rw [l1]; exact q1, by rw [l3]; exact q2, by rw [l3]; exact q3, by rw [l3, l1]; exact q4, by rw [l1]; exact q5, by rw [l1]; exact q6⟩ (by rw [l2]; exact e29) (by rw [l2, i2]; exact a3) (by rw [l2, l3, i2, i3]; exact Int.le_refl _) (by rw [eI7]; rfl) ?_
            rw [j11, eI7]; rfl
      · exfalso
        apply b5
        rw [e6'] at b7
        exact (B.rg 97 122 (by omega) (by omega)).mpr b7
    · have h := wb_f (by rw [b4]; decide) h
      rcases let12 e7 with ⟨b6, b7⟩ | ⟨b6, b7⟩
      · exfalso
        apply b7
        rw [e6']
        exact (B.rg 97 122 (by omega) (by omega)).mp b5
      · have g := wb_f (by rw [b6]; decide) g
        obtain ⟨I7, eI7, h⟩ := wb_v h
        have l1 : I7 1 = I3 1 := by rw [eI7]; rfl
        have l2 : I7 2 = I3 2 := by rw [eI7]; rfl
        have l3 : I7 3 = I3 3 := by rw [eI7]; rfl
        obtain ⟨q1, q2, q3, q4, q5, q6⟩ := q
        refine lp_let N N2 I7 J5 L4 R S h g ⟨by rw [l1]; exact q1, by rw [l3]; exact q2, by rw [l3]; exact q3, by rw [l3, l1]; exact q4, by rw [l1]; exact q5, by rw [l1]; exact q6⟩ (by rw [l2]; exact e29) (by rw [l2, i2]; exact a3) (by rw [l2, l3, i2, i3]; exact Int.le_refl _) (by rw [eI7]; rfl) ⟨?_, ?_⟩
        · rw [l2, l3, i2, i3]
          intro j j0 j1
          omega
        · rw [l2, l3, i2, i3, eL4]
          intro _
          rw [show ((I 3).toInt - (I 3).toInt).toNat = 0 by omega]
          rfl
  · have cg : ¬ J5 7 < J5 6 := by rw [j7, j6, ← a1, ← a2, ← i1, ← i3]; exact c
    have g := wb_f cg g
    obtain ⟨I', eI', h⟩ := wb_v h
    obtain ⟨J1, eJ1, g⟩ := wb_v g
    unfold fX12_steps_J279 at g
    obtain ⟨J', eJ', g⟩ := wb_v g
    have h := Option.some.inj h
    have g := Option.some.inj g
    subst h; subst g
    rw [eJ1] at eJ'
    obtain ⟨q1, q2, q3, q4, q5, q6⟩ := q
    have l1 : I' 1 = I3 1 := by rw [eI']; rfl
    have l2 : I' 2 = I3 2 := by rw [eI']; rfl
    have l3 : I' 3 = I3 3 := by rw [eI']; rfl
    have l4 : I' 4 = 0 := by rw [eI']; rfl
    refine ⟨⟨?_, ?_, ?_, ?_, ?_, ?_⟩, ?_, ?_, ?_, ?_, ?_, ?_, ?_⟩
    · show I' 1 = J' 6
      rw [l1, q1, eJ']; rfl
    · show I' 3 = J' 7
      rw [l3, q2, eJ']; rfl
    · show 0 ≤ (I' 3).toInt
      rw [l3]; exact q3
    · show (I' 3).toInt ≤ (I' 1).toInt
      rw [l3, l1]; exact q4
    · show (I' 1).toInt ≤ 600
      rw [l1]; exact q5
    · show ∀ j : Nat, (j : Int) < (I' 1).toInt → BR (M 0 j) (K 8 j)
      rw [l1]; exact q6
    · show I' 2 = J' 9
      rw [l2, e29, eJ']; rfl
    · show I' 4 = J' 8
      rw [l4, eJ']; rfl
    · show 0 ≤ (I' 2).toInt
      rw [l2, i2]; exact a3
    · show (I' 2).toInt ≤ (I' 3).toInt
      rw [l2, l3, i2, i3]; exact Int.le_refl _
    · show J' 10 = J' 7 - J' 9
      rw [eJ']; rfl
    · intro q4
      exact absurd (l4.symm.trans q4) (by decide)
    · intro q4
      exact absurd (l4.symm.trans q4) (by decide)
theorem lp_blk {N N2 : Nat} {M K : Nat → Nat → Int32} : ∀ (fu fv : Nat) (I J : Nat → Int32) (L : Int64) R S, fX9_step_L0 N fu I M = some R → fX12_steps_L0 N2 fv J L K = some S → TQ I J M K → TK R.1 S.1 S.2.1 M K := by
  intro fu
  induction fu with
  | zero => intro fv I J L R S h; cases (show none = some R from h)
  | succ fu ih =>
    intro fv I J L R S h g q
    cases fv with
    | zero => cases (show none = some S from g)
    | succ fv =>
      rw [fX9_step_L0.eq_2] at h
      rw [fX12_steps_L0.eq_2] at g
      have qa := q
      obtain ⟨a1, a2, a3, a4, a5, a6⟩ := qa
      rcases ifr h with ⟨c, h⟩ | ⟨c, h⟩
      · have g := wb_t (by rw [← a1, ← a2]; exact c) g
        exact stj h g q
      · have g := wb_f (by rw [← a1, ← a2]; exact c) g
        have c : ¬ _ := fun z => c ((le32 rfl rfl).mpr z)
        have hc : (I 3).toInt < (I 1).toInt := by omega
        obtain ⟨-, h⟩ := wb_n h
        obtain ⟨r15, e15, h⟩ := wb_b h
        obtain ⟨r25, e25, g⟩ := wb_b g
        have B := q.byte hc
        have e25' : r25 = K 8 (I 3).toInt.toNat := by
          rcases bat e25 with ⟨b1, b2⟩ | ⟨b1, b2, b3⟩
          · exfalso
            rw [← a1, ← a2] at b1
            omega
          · rw [b3, ← a2]
        have k32 : (M 0 (I 3).toInt.toNat = 32) ↔ r25 = 32 := by rw [e25']; exact B.eq (by decide) (by decide)
        have k10 : (M 0 (I 3).toInt.toNat = 10) ↔ r25 = 10 := by rw [e25']; exact B.eq (by decide) (by decide)
        rcases blk9 e15 with ⟨b1, b2⟩ | ⟨b1, b2, b3⟩
        · have h := wb_f (by rw [b1]; decide) h
          obtain ⟨I', eI, h⟩ := wb_v h
          have go : ∀ (J' : Nat → Int32), J' = upd J 7 (J 7 + 1) → fX12_steps_L0 N2 fv J' L K = some S → TK R.1 S.1 S.2.1 M K := by
            intro J' eJ g
            obtain ⟨q', e'⟩ := q.adv hc (I' := I') (J' := J') (by rw [eI]; rfl) (by rw [eI]; rfl) (by rw [eJ]; rfl) (by rw [eJ]; rfl)
            exact ih fv I' J' L R S h g q'
          rcases ifr g with ⟨d, g⟩ | ⟨d, g⟩
          · obtain ⟨J', eJ, g⟩ := wb_v g
            exact go J' eJ g
          · obtain ⟨r27, e27, g⟩ := wb_b g
            have e27' : r27 = r25 := Option.some.inj (e27.symm.trans e25)
            rcases ifr g with ⟨d2, g⟩ | ⟨d2, g⟩
            · obtain ⟨J', eJ, g⟩ := wb_v g
              exact go J' eJ g
            · exfalso
              rcases b2 with b2 | b2
              · exact d (k32.mp b2)
              · exact d2 (by rw [e27']; exact k10.mp b2)
        · have h := wb_t b1 h
          have g := wb_f (fun z => b2 (k32.mpr z)) g
          obtain ⟨r27, e27, g⟩ := wb_b g
          have e27' : r27 = r25 := Option.some.inj (e27.symm.trans e25)
          have g := wb_f (fun z => b3 (k10.mpr (by rw [← e27']; exact z))) g
          exact stj h g q
/-- a step of both: the same TOKEN -/
theorem st_tk {N N2 : Nat} {M K : Nat → Nat → Int32} {I J : Nat → Int32} {L : Int64} {R : (Nat → Int32) × (Nat → Nat → Int32)} {S : (Nat → Int32) × Int64 × (Nat → Nat → Int32)} (h : fX9_step N I M = some R) (g : fX12_steps N2 J L K = some S) (q : TQ I J M K) : TK R.1 S.1 S.2.1 M K := lp_blk N N2 I J L R S h g q

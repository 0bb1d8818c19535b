/-! feed: class and reference -/
theorem TR.cg {I I' J J' : Nat → Int32} {M M' K K' : Nat → Nat → Int32} (h : TR I J M K) (h0 : I' 0 = I 0) (h3 : J' 3 = J 3) (hm : M' 0 = M 0) (hk : K' 8 = K 8) : TR I' J' M' K' := by
  unfold TR at h ⊢
  rw [h0, h3, hm, hk]
  exact h
theorem TR.put {I J : Nat → Int32} {M K : Nat → Nat → Int32} (h : TR I J M K) (h6 : (I 0).toInt < 600) {a b : Int32} (hab : BR a b) : TR (upd I 0 (I 0 + 1)) (upd J 3 (J 3 + 1)) (wb_um M 0 (I 0).toNatClampNeg a) (wb_um K 8 (J 3).toNatClampNeg b) ∧ (I 0 + 1).toInt = (I 0).toInt + 1 := by
  obtain ⟨a1, a2, a3, a4⟩ := h
  have e : (I 0 + 1).toInt = (I 0).toInt + 1 := inc32 a3
  refine ⟨⟨?_, ?_, ?_, ?_⟩, e⟩
  · show I 0 + 1 = J 3 + 1
    rw [a1]
  · show 0 ≤ (I 0 + 1).toInt
    omega
  · show (I 0 + 1).toInt ≤ 600
    omega
  · show ∀ j : Nat, (j : Int) < (I 0 + 1).toInt → BR (wb_um M 0 (I 0).toNatClampNeg a 0 j) (wb_um K 8 (J 3).toNatClampNeg b 8 j)
    intro j hj
    show BR ((if (0 : Nat) = 0 then upd (M 0) (I 0).toNatClampNeg a else M 0) j) ((if (8 : Nat) = 8 then upd (K 8) (J 3).toNatClampNeg b else K 8) j)
    rw [if_pos rfl, if_pos rfl, ← a1, cl32]
    unfold upd
    by_cases hj2 : j = (I 0).toInt.toNat
    · rw [if_pos hj2, if_pos hj2]; exact hab
    · rw [if_neg hj2, if_neg hj2]; exact a4 j (by omega)
theorem put_l {N N2 : Nat} {x : Int32} : ∀ (fu fv m : Nat) (I J : Nat → Int32) (L : Int64) (M K : Nat → Nat → Int32) (y : Int32) R S, y.toInt = 8 * (m : Int) - 8 → m ≤ 4 → fX9_put_L3 N x fu I M y = some R → fX12_lays_L3 N2 x fv J L K y = some S → TR I J M K → (I 0).toInt + (m : Int) ≤ 600 → TR R.1 S.1 R.2 S.2.2 ∧ (R.1 0).toInt = (I 0).toInt + (m : Int) := by
  intro fu
  induction fu with
  | zero => intro fv m I J L M K y R S hy hm h; cases (show none = some R from h)
  | succ fu ih =>
    intro fv m I J L M K y R S hy hm h g tr h6
    cases fv with
    | zero => cases (show none = some S from g)
    | succ fv =>
      rw [fX9_put_L3.eq_2] at h
      rw [fX12_lays_L3.eq_2] at g
      cases m with
      | zero =>
        have c : y < 0 := (lt32 rfl (by decide : (0 : Int32).toInt = 0)).mpr (by omega)
        have h := Option.some.inj (wb_t c h)
        have g := Option.some.inj (wb_t c g)
        subst h
        subst g
        exact ⟨tr, by show (I 0).toInt = _; omega⟩
      | succ m =>
        have c : ¬ y < 0 := fun z => by
          have := (lt32 rfl (by decide : (0 : Int32).toInt = 0)).mp z
          omega
        have h := wb_f c h
        have g := wb_f c g
        have h := wb_f (fun z => by
          have := (le32 (by decide : (600 : Int32).toInt = 600) rfl).mp z
          omega) h
        obtain ⟨-, h⟩ := wb_n h
        obtain ⟨-, g⟩ := wb_n g
        obtain ⟨M1, eM, h⟩ := wb_v h
        obtain ⟨I1, eI, h⟩ := wb_v h
        obtain ⟨v3, ev, h⟩ := wb_v h
        obtain ⟨K1, eK, g⟩ := wb_v g
        obtain ⟨J1, eJ, g⟩ := wb_v g
        obtain ⟨u3, eu, g⟩ := wb_v g
        rw [eu, ← ev] at g
        obtain ⟨t1, t2⟩ := tr.put (by omega) (BR_of (x >>> (y &&& 31)))
        have n8 : (-8 : Int32).toInt = -8 := by decide
        have yv : v3.toInt = 8 * (m : Int) - 8 := by
          rw [ev, ia_add y (-8) (by omega) (by omega), n8]
          omega
        have i1 : (I1 0).toInt = (I 0).toInt + 1 := by rw [eI]; exact t2
        obtain ⟨u1, u2⟩ := ih fv m I1 J1 L M1 K1 v3 R S yv (by omega) h g (by rw [eI, eJ, eM, eK]; exact t1) (by omega)
        exact ⟨u1, by omega⟩
theorem put_t {N N2 : Nat} {x : Int32} {I J : Nat → Int32} {L : Int64} {M K : Nat → Nat → Int32} {R : (Nat → Int32) × (Nat → Nat → Int32)} {S : (Nat → Int32) × Int64 × (Nat → Nat → Int32)} (h : fX9_put N I M x = some R) (g : fX12_lays N2 J L K x = some S) (tr : TR I J M K) (h6 : (I 0).toInt ≤ 596) : TR (wb_in I 0 9 R.1) S.1 (wb_in M 0 1 R.2) S.2.2 ∧ (wb_in I 0 9 R.1 0).toInt = (I 0).toInt + 4 := by
  obtain ⟨t1, t2⟩ := put_l N N2 4 I J L M K 24 R S (by decide) (Nat.le_refl _) h g tr (by omega)
  have e0 : wb_in I 0 9 R.1 0 = R.1 0 := wbi_lt (by decide)
  exact ⟨t1.cg e0 rfl (wbi_lt (by decide)) rfl, by rw [e0]; exact t2⟩
theorem fed {N N2 : Nat} {a b c d e : Int32} {I J : Nat → Int32} {L : Int64} {M K : Nat → Nat → Int32} {R : Int32 × (Nat → Int32) × (Nat → Nat → Int32)} {S : Int32 × (Nat → Int32) × Int64 × (Nat → Nat → Int32)} (tr : TR I J M K) (h : fX11_feed N I M a b c d e = some R) (g : fX12_feed N2 J L K a b c d e = some S) : R.1 = S.1 ∧ TR R.2.1 S.2.1 R.2.2 S.2.2.2 := by
  unfold fX11_feed at h
  unfold fX12_feed at g
  obtain ⟨r1, e1, h⟩ := wb_b h
  obtain ⟨J1, eJ1, g⟩ := wb_v g
  have j3 : J1 3 = J 3 := by rw [eJ1]; rfl
  have trj : TR I J1 M K := tr.cg rfl j3 rfl rfl
  obtain ⟨a1, a2, a3, a4⟩ := tr
  have n20 : (20 : Int32).toInt = 20 := by decide
  have v1 := ia_add (J1 3) 20 (by rw [j3, ← a1]; omega) (by rw [j3, ← a1]; omega)
  rw [j3, ← a1, n20] at v1
  unfold fX9_hasRoom at e1
  rcases ifr e1 with ⟨c1, e1⟩ | ⟨c1, e1⟩
  · have e1 := Option.some.inj e1
    have c1 := (lt32 (by decide : (580 : Int32).toInt = 580) rfl).mp c1
    have h := Option.some.inj (wb_t e1.symm h)
    subst h
    have g := wb_f (fun z => by
      rw [j3, ← a1] at z
      have := (le32 v1 (by decide : (600 : Int32).toInt = 600)).mp z
      omega) g
    have g := Option.some.inj g
    subst g
    exact ⟨rfl, trj⟩
  · have e1 := Option.some.inj e1
    have c1 : ¬ _ := fun z => c1 ((lt32 (by decide : (580 : Int32).toInt = 580) rfl).mpr z)
    have h := wb_f (by rw [← e1]; decide) h
    have g := wb_t (by
      rw [j3, ← a1]
      exact (le32 v1 (by decide : (600 : Int32).toInt = 600)).mpr (by omega)) g
    obtain ⟨r2, e2, h⟩ := wb_b h
    obtain ⟨I3, eI3, h⟩ := wb_v h
    obtain ⟨M4, eM4, h⟩ := wb_v h
    obtain ⟨r5, e5, h⟩ := wb_b h
    obtain ⟨I6, eI6, h⟩ := wb_v h
    obtain ⟨M7, eM7, h⟩ := wb_v h
    obtain ⟨r8, e8, h⟩ := wb_b h
    obtain ⟨I9, eI9, h⟩ := wb_v h
    obtain ⟨M10, eM10, h⟩ := wb_v h
    obtain ⟨r11, e11, h⟩ := wb_b h
    obtain ⟨I12, eI12, h⟩ := wb_v h
    obtain ⟨M13, eM13, h⟩ := wb_v h
    obtain ⟨r14, e14, h⟩ := wb_b h
    obtain ⟨I15, eI15, h⟩ := wb_v h
    obtain ⟨M16, eM16, h⟩ := wb_v h
    obtain ⟨s2, f2, g⟩ := wb_b g
    obtain ⟨s3, f3, g⟩ := wb_b g
    obtain ⟨s4, f4, g⟩ := wb_b g
    obtain ⟨s5, f5, g⟩ := wb_b g
    obtain ⟨s6, f6, g⟩ := wb_b g
    obtain ⟨t1, u1⟩ := put_t e2 f2 trj (by omega)
    rw [← eI3, ← eM4] at t1
    rw [← eI3] at u1
    obtain ⟨t2, u2⟩ := put_t e5 f3 t1 (by omega)
    rw [← eI6, ← eM7] at t2
    rw [← eI6] at u2
    obtain ⟨t3, u3⟩ := put_t e8 f4 t2 (by omega)
    rw [← eI9, ← eM10] at t3
    rw [← eI9] at u3
    obtain ⟨t4, u4⟩ := put_t e11 f5 t3 (by omega)
    rw [← eI12, ← eM13] at t4
    rw [← eI12] at u4
    obtain ⟨t5, u5⟩ := put_t e14 f6 t4 (by omega)
    rw [← eI15, ← eM16] at t5
    have h := Option.some.inj h
    have g := Option.some.inj g
    subst h
    subst g
    exact ⟨t5.1, t5⟩

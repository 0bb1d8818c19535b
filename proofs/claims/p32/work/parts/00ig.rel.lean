/-! ERRORS of both -/
noncomputable def bb (p q r s : Bool) : Int32 := nI ((if p then 1 else 0) + (if q then 2 else 0) + (if r then 4 else 0) + (if s then 8 else 0))
/-- what a WANDERER adds -/
noncomputable def ecf (c : Int32) : Int32 := if c = -1 then 0 else 1
noncomputable def scf (s c : Int32) : Int32 := if c = -1 then 0 else if ((c >>> (s &&& 31)) &&& 1) = 1 then 1 else 0
noncomputable def acf (s c : Int32) : Int32 := if c = ((1 : Int32) <<< (s &&& 31)) then 1 else 0
noncomputable def wcf (s c : Int32) : Int32 := if scf s c = 0 then 0 else if (fJ6_bitCount_0f7a4 0 c).getD 0 ≤ 0 then 0 else 6 / (fJ6_bitCount_0f7a4 0 c).getD 0
/-! the reference's rows -/
noncomputable def up3 (K : Nat → Nat → Int32) (s : Nat) (p : Bool) (b : Int32) : Nat → Nat → Int32 := if p then wb_um (wb_um (wb_um K 20 s (K 20 s + 1)) 21 s (K 21 s + (if b = 1 then 1 else 0))) 22 s (K 22 s + 6 / b) else K
theorem up3_v {K : Nat → Nat → Int32} {s : Nat} {p : Bool} {b : Int32} (t : Nat) : up3 K s p b 20 t = (if t = s then K 20 t + (if p then 1 else 0) else K 20 t) ∧ up3 K s p b 21 t = (if t = s then K 21 t + (if p then (if b = 1 then 1 else 0) else 0) else K 21 t) ∧ up3 K s p b 22 t = (if t = s then K 22 t + (if p then 6 / b else 0) else K 22 t) := by
  unfold up3
  cases p with
  | false =>
    simp only [Bool.false_eq_true, if_false, z32, ite_self]
    exact ⟨trivial, trivial, trivial⟩
  | true =>
    simp only [if_true]
    refine ⟨?_, ?_, ?_⟩
    · show upd (K 20) s (K 20 s + 1) t = _
      unfold upd
      by_cases e : t = s
      · rw [if_pos e, if_pos e, e]
      · rw [if_neg e, if_neg e]
    · show upd (K 21) s (K 21 s + (if b = 1 then 1 else 0)) t = _
      unfold upd
      by_cases e : t = s
      · rw [if_pos e, if_pos e, e]
      · rw [if_neg e, if_neg e]
    · show upd (K 22) s (K 22 s + 6 / b) t = _
      unfold upd
      by_cases e : t = s
      · rw [if_pos e, if_pos e, e]
      · rw [if_neg e, if_neg e]
/-- a WANDERER's part in the rows: eight cases -/
theorem cod (q r s : Bool) : ecf (bb false q r s) = 1 ∧ (scf 1 (bb false q r s) = (if q then 1 else 0) ∧ scf 2 (bb false q r s) = (if r then 1 else 0) ∧ scf 3 (bb false q r s) = (if s then 1 else 0)) ∧ (∀ b : Int32, b = (0 : Int32) + (if q then 1 else 0) + (if r then 1 else 0) + (if s then 1 else 0) → (acf 1 (bb false q r s) = (if q then (if b = 1 then 1 else 0) else 0) ∧ acf 2 (bb false q r s) = (if r then (if b = 1 then 1 else 0) else 0) ∧ acf 3 (bb false q r s) = (if s then (if b = 1 then 1 else 0) else 0)) ∧ (wcf 1 (bb false q r s) = (if q then 6 / b else 0) ∧ wcf 2 (bb false q r s) = (if r then 6 / b else 0) ∧ wcf 3 (bb false q r s) = (if s then 6 / b else 0))) := by
  refine ⟨?_, ?_, fun b hb => ?_⟩
  · revert q r s; decide +kernel
  · revert q r s; decide +kernel
  · subst hb
    revert q r s; decide +kernel
theorem cod0 : ecf (-1) = 0 ∧ (scf 1 (-1) = 0 ∧ scf 2 (-1) = 0 ∧ scf 3 (-1) = 0) ∧ (acf 1 (-1) = 0 ∧ acf 2 (-1) = 0 ∧ acf 3 (-1) = 0) ∧ (wcf 1 (-1) = 0 ∧ wcf 2 (-1) = 0 ∧ wcf 3 (-1) = 0) := by decide +kernel
/-- the reference's rows hold the sums of the class's codes -/
noncomputable def EV (m : Nat → Int32) (K : Nat → Nat → Int32) (v : Int32) (k : Nat) : Prop := v = sm2 (fun j => ecf (m j)) k ∧ (K 20 1 = sm2 (fun j => scf 1 (m j)) k ∧ K 20 2 = sm2 (fun j => scf 2 (m j)) k ∧ K 20 3 = sm2 (fun j => scf 3 (m j)) k) ∧ (K 21 1 = sm2 (fun j => acf 1 (m j)) k ∧ K 21 2 = sm2 (fun j => acf 2 (m j)) k ∧ K 21 3 = sm2 (fun j => acf 3 (m j)) k) ∧ (K 22 1 = sm2 (fun j => wcf 1 (m j)) k ∧ K 22 2 = sm2 (fun j => wcf 2 (m j)) k ∧ K 22 3 = sm2 (fun j => wcf 3 (m j)) k)
theorem EV.zero {m : Nat → Int32} {K : Nat → Nat → Int32} {v : Int32} {k : Nat} (h : EV m K v k) (hc : m k = -1) : EV m K v (k + 1) := by
  obtain ⟨a, ⟨b1, b2, b3⟩, ⟨c1, c2, c3⟩, d1, d2, d3⟩ := h
  obtain ⟨q, ⟨r1, r2, r3⟩, ⟨s1, s2, s3⟩, t1, t2, t3⟩ := cod0
  have e : ∀ f : Int32 → Int32, f (-1) = 0 → sm2 (fun j => f (m j)) (k + 1) = sm2 (fun j => f (m j)) k := by
    intro f hf
    show sm2 (fun j => f (m j)) k + f (m k) = _
    rw [hc, hf, z32]
  exact ⟨by rw [e ecf q]; exact a, ⟨by rw [e (scf 1) r1]; exact b1, by rw [e (scf 2) r2]; exact b2, by rw [e (scf 3) r3]; exact b3⟩, ⟨by rw [e (acf 1) s1]; exact c1, by rw [e (acf 2) s2]; exact c2, by rw [e (acf 3) s3]; exact c3⟩, by rw [e (wcf 1) t1]; exact d1, by rw [e (wcf 2) t2]; exact d2, by rw [e (wcf 3) t3]; exact d3⟩
theorem EV.add {m : Nat → Int32} {K : Nat → Nat → Int32} {v : Int32} {k : Nat} {p q r : Bool} {b : Int32} (h : EV m K v k) (hc : m k = bb false p q r) (hb : b = (0 : Int32) + (if p then 1 else 0) + (if q then 1 else 0) + (if r then 1 else 0)) : EV m (up3 (up3 (up3 K 1 p b) 2 q b) 3 r b) (v + 1) (k + 1) := by
  obtain ⟨a, ⟨b1, b2, b3⟩, ⟨c1, c2, c3⟩, d1, d2, d3⟩ := h
  obtain ⟨x, ⟨r1, r2, r3⟩, y⟩ := cod p q r
  obtain ⟨⟨s1, s2, s3⟩, t1, t2, t3⟩ := y b hb
  have e : ∀ (f : Int32 → Int32) (z w : Int32), f (bb false p q r) = z → w = sm2 (fun j => f (m j)) k → w + z = sm2 (fun j => f (m j)) (k + 1) := by
    intro f z w hf hw
    show _ = sm2 (fun j => f (m j)) k + f (m k)
    rw [hc, hf, hw]
  have u : ∀ (j t : Nat), (j = 20 ∨ j = 21 ∨ j = 22) → (t = 1 ∨ t = 2 ∨ t = 3) → up3 (up3 (up3 K 1 p b) 2 q b) 3 r b j t = K j t + (if j = 20 then (if (if t = 1 then p else if t = 2 then q else r) then 1 else 0) else if j = 21 then (if (if t = 1 then p else if t = 2 then q else r) then (if b = 1 then 1 else 0) else 0) else (if (if t = 1 then p else if t = 2 then q else r) then 6 / b else 0)) := by
    intro j t hj ht
    have v1 := up3_v (K := K) (s := 1) (p := p) (b := b) t
    have v2 := up3_v (K := up3 K 1 p b) (s := 2) (p := q) (b := b) t
    have v3 := up3_v (K := up3 (up3 K 1 p b) 2 q b) (s := 3) (p := r) (b := b) t
    rcases hj with rfl | rfl | rfl
    · rw [v3.1, v2.1, v1.1]
      rcases ht with rfl | rfl | rfl <;> simp
    · rw [v3.2.1, v2.2.1, v1.2.1]
      rcases ht with rfl | rfl | rfl <;> simp
    · rw [v3.2.2, v2.2.2, v1.2.2]
      rcases ht with rfl | rfl | rfl <;> simp
  refine ⟨e ecf 1 v x a, ⟨?_, ?_, ?_⟩, ⟨?_, ?_, ?_⟩, ?_, ?_, ?_⟩
  · rw [u 20 1 (by omega) (by omega)]; exact e (scf 1) _ _ r1 b1
  · rw [u 20 2 (by omega) (by omega)]; exact e (scf 2) _ _ r2 b2
  · rw [u 20 3 (by omega) (by omega)]; exact e (scf 3) _ _ r3 b3
  · rw [u 21 1 (by omega) (by omega)]; exact e (acf 1) _ _ s1 c1
  · rw [u 21 2 (by omega) (by omega)]; exact e (acf 2) _ _ s2 c2
  · rw [u 21 3 (by omega) (by omega)]; exact e (acf 3) _ _ s3 c3
  · rw [u 22 1 (by omega) (by omega)]; exact e (wcf 1) _ _ t1 d1
  · rw [u 22 2 (by omega) (by omega)]; exact e (wcf 2) _ _ t2 d2
  · rw [u 22 3 (by omega) (by omega)]; exact e (wcf 3) _ _ t3 d3
/-! ahead of the answers -/
/-- the latest BEST of both -/
noncomputable def QBR (I : Nat → Int32) (M : Nat → Nat → Int32) (J : Nat → Int32) (K : Nat → Nat → Int32) : Prop := (I 13 = 0 ∧ J 15 = -1) ∨ (I 13 = 1 ∧ I 18 = J 15 ∧ 1 ≤ (I 18).toInt ∧ ∀ j : Nat, j < 20 → (j : Int) < (I 18).toInt → M 16 j = K 17 j)
theorem QBR.cg {I I' J J' : Nat → Int32} {M M' K K' : Nat → Nat → Int32} (h : QBR I M J K) (a : I' 13 = I 13) (b : I' 18 = I 18) (c : M' 16 = M 16) (d : J' 15 = J 15) (e : K' 17 = K 17) : QBR I' M' J' K' := by
  unfold QBR at h ⊢
  rw [a, b, c, d, e]
  exact h
/-! SEARCH, image, LEAVES, outcomes: relations and answers -/
noncomputable def QSR (I : Nat → Int32) (M : Nat → Nat → Int32) (J : Nat → Int32) (K : Nat → Nat → Int32) : Prop := I 27 = J 16 ∧ (¬ I 27 = 0 → QS (wb_sh I 27) (M 18) (K 18))
noncomputable def QIR (I : Nat → Int32) (M : Nat → Nat → Int32) (J : Nat → Int32) (K : Nat → Nat → Int32) : Prop := I 34 = J 17 ∧ (¬ I 34 = 0 → QS (wb_sh I 34) (M 19) (K 19))
noncomputable def QL (I : Nat → Int32) (M : Nat → Nat → Int32) (J : Nat → Int32) (K : Nat → Nat → Int32) : Prop := ∀ b : Nat, b < 6 → M 24 b = K 27 b ∧ ∀ i : Nat, (i : Int) < (K 27 b).toInt → M 23 (20 * b + i) = K 28 (20 * b + i)
noncomputable def QO (I : Nat → Int32) (M : Nat → Nat → Int32) (J : Nat → Int32) (K : Nat → Nat → Int32) : Prop := OR M K
theorem QS.cg {i i' m m' k : Nat → Int32} (h : QS i m k) (a : ∀ j, j < 7 → i' j = i j) (b : m' 0 = m 0) : QS i' m' k := by
  unfold QS at h ⊢
  rw [a 1 (by omega), a 2 (by omega), a 3 (by omega), a 4 (by omega), a 5 (by omega), a 6 (by omega), b]
  exact h
theorem QSR.cg {I I' J J' : Nat → Int32} {M M' K K' : Nat → Nat → Int32} (h : QSR I M J K) (a : ∀ j, j < 34 → 27 ≤ j → I' j = I j) (c : M' 18 = M 18) (d : J' 16 = J 16) (e : K' 18 = K 18) : QSR I' M' J' K' := by
  unfold QSR at h ⊢
  rw [a 27 (by omega) (by omega), c, d, e]
  exact ⟨h.1, fun z => (h.2 z).cg (fun j hj => a (j + 27) (by omega) (by omega)) rfl⟩
theorem QIR.cg {I I' J J' : Nat → Int32} {M M' K K' : Nat → Nat → Int32} (h : QIR I M J K) (a : ∀ j, j < 41 → 34 ≤ j → I' j = I j) (c : M' 19 = M 19) (d : J' 17 = J 17) (e : K' 19 = K 19) : QIR I' M' J' K' := by
  unfold QIR at h ⊢
  rw [a 34 (by omega) (by omega), c, d, e]
  exact ⟨h.1, fun z => (h.2 z).cg (fun j hj => a (j + 34) (by omega) (by omega)) rfl⟩
theorem QL.cg {I I' J J' : Nat → Int32} {M M' K K' : Nat → Nat → Int32} (h : QL I M J K) (a : M' 23 = M 23) (b : M' 24 = M 24) (c : K' 27 = K 27) (d : K' 28 = K 28) : QL I' M' J' K' := by
  unfold QL at h ⊢
  rw [a, b, c, d]
  exact h
theorem QO.cg {I I' J J' : Nat → Int32} {M M' K K' : Nat → Nat → Int32} (h : QO I M J K) (a : M' 28 = M 28) (b : M' 29 = M 29) (c : M' 30 = M 30) (d : K' 32 = K 32) (e : K' 33 = K 33) (f : K' 34 = K 34) : QO I' M' J' K' := by
  unfold QO OR at h ⊢
  rw [a, b, c, d, e, f]
  exact h
theorem QL_fresh : QL fx_I fx_M fm_I fm_M := by
  intro b hb
  rw [fm_M_z 27 b (by decide), fx_M_z 24 b (by decide)]
  refine ⟨rfl, fun i hi => ?_⟩
  rw [show (0 : Int32).toInt = 0 from by decide] at hi
  omega
/-! DAYS that are kept -/
/-! LEAVES -/
theorem lf_l {N N2 : Nat} {I I0 J : Nat → Int32} {L : Int64} {M0 K : Nat → Nat → Int32} {x1 x2 : Int32} (hx : QL I0 M0 J K) (h1 : 0 ≤ x1.toInt ∧ x1.toInt ≤ 5) : ∀ (fu fv y : Nat) (a b : Int32), fX6_placeOf_L2 N I (wb_sh M0 23) x1 x2 fu (nI y) = some a → fX12_leafAt_L2 N2 J L K x1 x2 fv (nI y) = some b → y < 2 ^ 30 → a = b := by
  have cb : x1.toNatClampNeg < 6 := by rw [cl32]; omega
  have t20 : (20 : Int32).toInt = 20 := by decide
  have m1 := ia_mul 20 20 t20 x1 (by omega) (by omega)
  obtain ⟨e1, e2⟩ := hx _ cb
  intro fu
  induction fu with
  | zero => intro fv y a b h; cases (show none = some a from h)
  | succ fu ih =>
    intro fv y a b h g hy
    cases fv with
    | zero => cases (show none = some b from g)
    | succ fv =>
      rw [fX6_placeOf_L2.eq_2] at h
      rw [fX12_leafAt_L2.eq_2] at g
      have ty : (nI y).toInt = (y : Int) := nI_toInt (by omega)
      obtain ⟨-, h⟩ := wb_n h
      obtain ⟨-, g⟩ := wb_n g
      have h : (if M0 24 x1.toNatClampNeg ≤ nI y then some (-1 : Int32) else if (20 * x1 + nI y < 0 ∨ 120 ≤ (20 * x1 + nI y).toNatClampNeg) then none else if M0 23 (20 * x1 + nI y).toNatClampNeg = x2 then some (nI y) else (some (nI y + 1)).bind fun v1 => fX6_placeOf_L2 N I (wb_sh M0 23) x1 x2 fu v1) = some a := h
      rw [e1] at h
      rcases ifr h with ⟨c, h⟩ | ⟨c, h⟩
      · rw [← Option.some.inj h, ← Option.some.inj (wb_t c g)]
      · have g := wb_f c g
        have c : ¬ _ := fun z => c ((le32 rfl ty).mpr z)
        obtain ⟨n, h⟩ := wb_n h
        obtain ⟨-, g⟩ := wb_n g
        have hlt := Int32.toInt_lt (K 27 x1.toNatClampNeg)
        have s1 : (20 * x1 + nI y).toNatClampNeg = 20 * x1.toNatClampNeg + y := by
          have z := ia_add ((20 : Int32) * x1) (nI y) (by omega) (by omega)
          rw [cl32, z, m1, cl32]
          omega
        have e := e2 y (by omega)
        rw [s1, e] at h
        rw [s1] at g
        rcases ifr h with ⟨d, h⟩ | ⟨d, h⟩
        · rw [← Option.some.inj h, ← Option.some.inj (wb_t d g)]
        · have g := wb_f d g
          obtain ⟨v, ev, h⟩ := wb_v h
          obtain ⟨w, ew, g⟩ := wb_v g
          rw [ev, nI_1] at h
          rw [ew, nI_1] at g
          rcases Nat.lt_or_ge (y + 1) (2 ^ 30) with k | k
          · exact ih fv (y + 1) a b h g k
          · exfalso
            rw [s1, cl32] at n
            exact n (Or.inr (by omega))
theorem lf_eq {N N2 : Nat} {I I0 J : Nat → Int32} {L : Int64} {M0 K : Nat → Nat → Int32} {x1 x2 a b : Int32} (hx : QL I0 M0 J K) (cb : x1.toNatClampNeg < 6) (h0 : 0 ≤ x1.toInt) (h : fX6_placeOf N I (wb_sh M0 23) x1 x2 = some a) (g : fX12_leafAt N2 J L K x1 x2 = some b) : a = b := by
  unfold fX6_placeOf at h
  unfold fX12_leafAt at g
  exact lf_l hx ⟨h0, by rw [cl32] at cb; omega⟩ N N2 0 a b h g (by decide)
/-! how many -/
theorem Eqo.ip {α : Type} {V W : List Nat} {a b c : Nat → α} {o n : Nat} (h : Eqo V c (wb_sh a o)) (hn : ∀ j, j < n → j ∈ V → o + j ∈ W) (g : Eqo W a b) : Eqo W (wb_in a o n c) b := fun k hk => by
  show (if o ≤ k ∧ k < o + n then c (k - o) else a k) = b k
  by_cases e : o ≤ k ∧ k < o + n
  · rw [if_pos e, h (k - o) (fun q => hk (by have := hn (k - o) (by omega) q; rwa [show o + (k - o) = k by omega] at this))]
    show a (k - o + o) = b k
    rw [show k - o + o = k by omega]
    exact g k hk
  · rw [if_neg e]
    exact g k hk
noncomputable abbrev gwI_X6_addTo : List Nat := []
noncomputable abbrev gwM_X6_addTo : List Nat := [0, 1]
theorem gr_fX6_addTo {N : Nat} {I0 : Nat → Int32} {M0 : Nat → Nat → Int32} {x1 : Int32} {x2 : Int32} {R} (h : fX6_addTo N I0 M0 x1 x2 = some R) : Eqo gwI_X6_addTo R.2.1 I0 ∧ Eqo gwM_X6_addTo R.2.2 M0 := by
  unfold fX6_addTo at h
  obtain ⟨r1, -, h⟩ := wb_b h
  rcases fr_i h with h | h
  · obtain ⟨-, h⟩ := wb_n h
    rcases fr_i h with h | h
    · obtain ⟨-, h⟩ := wb_n h
      obtain ⟨-, h⟩ := wb_n h
      obtain ⟨M0_2, e_M0_2, h⟩ := wb_v h
      have f_M0_2 := Eqo.eq e_M0_2 (Eqo.m (by decide) (Eqo.refl gwM_X6_addTo M0))
      obtain ⟨-, h⟩ := wb_n h
      obtain ⟨-, h⟩ := wb_n h
      obtain ⟨M0_3, e_M0_3, h⟩ := wb_v h
      have f_M0_3 := Eqo.eq e_M0_3 (Eqo.m (by decide) f_M0_2)
      obtain ⟨-, h⟩ := wb_n h
      have h := Option.some.inj h
      subst h
      exact ⟨(Eqo.refl gwI_X6_addTo I0), f_M0_3⟩
    · have h := Option.some.inj h
      subst h
      exact ⟨(Eqo.refl gwI_X6_addTo I0), (Eqo.refl gwM_X6_addTo M0)⟩
  · have h := Option.some.inj h
    subst h
    exact ⟨(Eqo.refl gwI_X6_addTo I0), (Eqo.refl gwM_X6_addTo M0)⟩
noncomputable abbrev gwI_X6_setPlaces : List Nat := []
noncomputable abbrev gwM_X6_setPlaces : List Nat := [2]
theorem gr_fX6_setPlaces_L5 {N : Nat} {x1 : Int32} {x2 : Int32} : ∀ fu I0_l5 M0_l5 y5_3 y5_4 R, fX6_setPlaces_L5 N x1 x2 fu I0_l5 M0_l5 y5_3 y5_4 = some R → Eqo gwI_X6_setPlaces R.2.1 I0_l5 ∧ Eqo gwM_X6_setPlaces R.2.2 M0_l5 := by
  intro fu
  induction fu with
  | zero => intro I0_l5 M0_l5 y5_3 y5_4 R h; cases (show none = some R from h)
  | succ fu ih =>
    intro I0_l5 M0_l5 y5_3 y5_4 R h
    rw [fX6_setPlaces_L5.eq_2] at h
    obtain ⟨-, h⟩ := wb_n h
    rcases fr_i h with h | h
    · have h := Option.some.inj h
      subst h
      exact ⟨(Eqo.refl gwI_X6_setPlaces I0_l5), (Eqo.refl gwM_X6_setPlaces M0_l5)⟩
    · obtain ⟨-, h⟩ := wb_n h
      obtain ⟨r1, -, h⟩ := wb_b h
      rcases fr_i h with h | h
      · obtain ⟨v2, -, h⟩ := wb_v h
        have a1 := ih _ _ _ _ _ h
        exact ⟨a1.1.tr (by decide) (Eqo.refl gwI_X6_setPlaces I0_l5), a1.2.tr (by decide) (Eqo.refl gwM_X6_setPlaces M0_l5)⟩
      · obtain ⟨-, h⟩ := wb_n h
        obtain ⟨M0_3, e_M0_3, h⟩ := wb_v h
        have f_M0_3 := Eqo.eq e_M0_3 (Eqo.m (by decide) (Eqo.refl gwM_X6_setPlaces M0_l5))
        obtain ⟨v4, -, h⟩ := wb_v h
        obtain ⟨v5, -, h⟩ := wb_v h
        have a2 := ih _ _ _ _ _ h
        exact ⟨a2.1.tr (by decide) (Eqo.refl gwI_X6_setPlaces I0_l5), a2.2.tr (by decide) f_M0_3⟩
theorem gr_fX6_setPlaces {N : Nat} {I0 : Nat → Int32} {M0 : Nat → Nat → Int32} {x1 : Int32} {x2 : Int32} {R} (h : fX6_setPlaces N I0 M0 x1 x2 = some R) : Eqo gwI_X6_setPlaces R.2.1 I0 ∧ Eqo gwM_X6_setPlaces R.2.2 M0 := by
  unfold fX6_setPlaces at h
  have a1 := gr_fX6_setPlaces_L5 _ _ _ _ _ _ h
  exact ⟨a1.1.tr (by decide) (Eqo.refl gwI_X6_setPlaces I0), a1.2.tr (by decide) (Eqo.refl gwM_X6_setPlaces M0)⟩
noncomputable abbrev gwI_X6_howManyInOrder : List Nat := []
noncomputable abbrev gwM_X6_howManyInOrder : List Nat := [2, 3]
theorem gr_fX6_howManyInOrder_L30 {N : Nat} {x1 : Int32} {x2 : Int32} {v2 : Int32} {y13_4 : Int32} {y13_5 : Int32} {g13 : (Nat → Int32) → (Nat → Nat → Int32) → Int32 → Int32 → Option (Int32 × (Nat → Int32) × (Nat → Nat → Int32))} (hg13 : ∀ q0 q1 q2 q3 R, g13 q0 q1 q2 q3 = some R → Eqo gwI_X6_howManyInOrder R.2.1 q0 ∧ Eqo gwM_X6_howManyInOrder R.2.2 q1) : ∀ fu I0_l30 M0_l30 y30_6 R, fX6_howManyInOrder_L30 N x1 x2 v2 y13_4 y13_5 g13 fu I0_l30 M0_l30 y30_6 = some R → Eqo gwI_X6_howManyInOrder R.2.1 I0_l30 ∧ Eqo gwM_X6_howManyInOrder R.2.2 M0_l30 := by
  intro fu
  induction fu with
  | zero => intro I0_l30 M0_l30 y30_6 R h; cases (show none = some R from h)
  | succ fu ih =>
    intro I0_l30 M0_l30 y30_6 R h
    rw [fX6_howManyInOrder_L30.eq_2] at h
    rcases fr_i h with h | h
    · obtain ⟨-, h⟩ := wb_n h
      obtain ⟨v4, -, h⟩ := wb_v h
      obtain ⟨v5, -, h⟩ := wb_v h
      have a1 := hg13 _ _ _ _ _ h
      exact ⟨a1.1.tr (by decide) (Eqo.refl gwI_X6_howManyInOrder I0_l30), a1.2.tr (by decide) (Eqo.refl gwM_X6_howManyInOrder M0_l30)⟩
    · obtain ⟨-, h⟩ := wb_n h
      obtain ⟨-, h⟩ := wb_n h
      rcases fr_i h with h | h
      · obtain ⟨v6, -, h⟩ := wb_v h
        have a2 := ih _ _ _ _ h
        exact ⟨a2.1.tr (by decide) (Eqo.refl gwI_X6_howManyInOrder I0_l30), a2.2.tr (by decide) (Eqo.refl gwM_X6_howManyInOrder M0_l30)⟩
      · obtain ⟨-, h⟩ := wb_n h
        obtain ⟨-, h⟩ := wb_n h
        obtain ⟨-, h⟩ := wb_n h
        obtain ⟨M0_7, e_M0_7, h⟩ := wb_v h
        have f_M0_7 := Eqo.eq e_M0_7 (Eqo.m (by decide) (Eqo.refl gwM_X6_howManyInOrder M0_l30))
        obtain ⟨v8, -, h⟩ := wb_v h
        have a3 := ih _ _ _ _ h
        exact ⟨a3.1.tr (by decide) (Eqo.refl gwI_X6_howManyInOrder I0_l30), a3.2.tr (by decide) f_M0_7⟩
theorem gr_fX6_howManyInOrder_L13 {N : Nat} {x1 : Int32} {x2 : Int32} {v2 : Int32} : ∀ fu I0_l13 M0_l13 y13_4 y13_5 R, fX6_howManyInOrder_L13 N x1 x2 v2 fu I0_l13 M0_l13 y13_4 y13_5 = some R → Eqo gwI_X6_howManyInOrder R.2.1 I0_l13 ∧ Eqo gwM_X6_howManyInOrder R.2.2 M0_l13 := by
  intro fu
  induction fu with
  | zero => intro I0_l13 M0_l13 y13_4 y13_5 R h; cases (show none = some R from h)
  | succ fu ih =>
    intro I0_l13 M0_l13 y13_4 y13_5 R h
    rw [fX6_howManyInOrder_L13.eq_2] at h
    rcases fr_i h with h | h
    · have h := Option.some.inj h
      subst h
      exact ⟨(Eqo.refl gwI_X6_howManyInOrder I0_l13), (Eqo.refl gwM_X6_howManyInOrder M0_l13)⟩
    · obtain ⟨-, h⟩ := wb_n h
      obtain ⟨M0_3, e_M0_3, h⟩ := wb_v h
      have f_M0_3 := Eqo.eq e_M0_3 (Eqo.m (by decide) (Eqo.refl gwM_X6_howManyInOrder M0_l13))
      have c103 : ∀ q0 q1 q2 q3 R, (fX6_howManyInOrder_L13 N x1 x2 v2 fu q0 q1 q2 q3) = some R → Eqo gwI_X6_howManyInOrder R.2.1 q0 ∧ Eqo gwM_X6_howManyInOrder R.2.2 q1 := by
          intro q0 q1 q2 q3 R h
          have a102 := ih _ _ _ _ _ h
          exact ⟨a102.1.tr (by decide) (Eqo.refl gwI_X6_howManyInOrder q0), a102.2.tr (by decide) (Eqo.refl gwM_X6_howManyInOrder q1)⟩
      have a1 := gr_fX6_howManyInOrder_L30 c103 _ _ _ _ _ h
      exact ⟨a1.1.tr (by decide) (Eqo.refl gwI_X6_howManyInOrder I0_l13), a1.2.tr (by decide) f_M0_3⟩
theorem gr_fX6_howManyInOrder {N : Nat} {I0 : Nat → Int32} {M0 : Nat → Nat → Int32} {x1 : Int32} {x2 : Int32} {R} (h : fX6_howManyInOrder N I0 M0 x1 x2 = some R) : Eqo gwI_X6_howManyInOrder R.2.1 I0 ∧ Eqo gwM_X6_howManyInOrder R.2.2 M0 := by
  unfold fX6_howManyInOrder at h
  obtain ⟨r1, e_r1, h⟩ := wb_b h
  have a1 := gr_fX6_setPlaces e_r1
  have fI_r1 := a1.1.tr (W := gwI_X6_howManyInOrder) (by decide) (Eqo.refl gwI_X6_howManyInOrder I0)
  have fM_r1 := a1.2.tr (W := gwM_X6_howManyInOrder) (by decide) (Eqo.refl gwM_X6_howManyInOrder M0)
  obtain ⟨v2, -, h⟩ := wb_v h
  have a2 := gr_fX6_howManyInOrder_L13 _ _ _ _ _ _ h
  exact ⟨a2.1.tr (by decide) fI_r1, a2.2.tr (by decide) fM_r1⟩
noncomputable abbrev gwI_X6_howManyTurned : List Nat := []
noncomputable abbrev gwM_X6_howManyTurned : List Nat := [2]
theorem gr_fX6_howManyTurned_L22 {N : Nat} {x1 : Int32} {x2 : Int32} {v2 : Int32} {y13_5 : Int32} {g13 : (Nat → Int32) → (Nat → Nat → Int32) → Int32 → Int32 → Option (Int32 × (Nat → Int32) × (Nat → Nat → Int32))} (hg13 : ∀ q0 q1 q2 q3 R, g13 q0 q1 q2 q3 = some R → Eqo gwI_X6_howManyTurned R.2.1 q0 ∧ Eqo gwM_X6_howManyTurned R.2.2 q1) : ∀ fu I0_l22 M0_l22 y22_4 y22_6 R, fX6_howManyTurned_L22 N x1 x2 v2 y13_5 g13 fu I0_l22 M0_l22 y22_4 y22_6 = some R → Eqo gwI_X6_howManyTurned R.2.1 I0_l22 ∧ Eqo gwM_X6_howManyTurned R.2.2 M0_l22 := by
  intro fu
  induction fu with
  | zero => intro I0_l22 M0_l22 y22_4 y22_6 R h; cases (show none = some R from h)
  | succ fu ih =>
    intro I0_l22 M0_l22 y22_4 y22_6 R h
    rw [fX6_howManyTurned_L22.eq_2] at h
    rcases fr_i h with h | h
    · obtain ⟨v3, -, h⟩ := wb_v h
      have a1 := hg13 _ _ _ _ _ h
      exact ⟨a1.1.tr (by decide) (Eqo.refl gwI_X6_howManyTurned I0_l22), a1.2.tr (by decide) (Eqo.refl gwM_X6_howManyTurned M0_l22)⟩
    · obtain ⟨-, h⟩ := wb_n h
      obtain ⟨-, h⟩ := wb_n h
      rcases fr_i h with h | h
      · obtain ⟨v4, -, h⟩ := wb_v h
        have a2 := ih _ _ _ _ _ h
        exact ⟨a2.1.tr (by decide) (Eqo.refl gwI_X6_howManyTurned I0_l22), a2.2.tr (by decide) (Eqo.refl gwM_X6_howManyTurned M0_l22)⟩
      · obtain ⟨v5, -, h⟩ := wb_v h
        obtain ⟨v6, -, h⟩ := wb_v h
        have a3 := ih _ _ _ _ _ h
        exact ⟨a3.1.tr (by decide) (Eqo.refl gwI_X6_howManyTurned I0_l22), a3.2.tr (by decide) (Eqo.refl gwM_X6_howManyTurned M0_l22)⟩
theorem gr_fX6_howManyTurned_L13 {N : Nat} {x1 : Int32} {x2 : Int32} {v2 : Int32} : ∀ fu I0_l13 M0_l13 y13_4 y13_5 R, fX6_howManyTurned_L13 N x1 x2 v2 fu I0_l13 M0_l13 y13_4 y13_5 = some R → Eqo gwI_X6_howManyTurned R.2.1 I0_l13 ∧ Eqo gwM_X6_howManyTurned R.2.2 M0_l13 := by
  intro fu
  induction fu with
  | zero => intro I0_l13 M0_l13 y13_4 y13_5 R h; cases (show none = some R from h)
  | succ fu ih =>
    intro I0_l13 M0_l13 y13_4 y13_5 R h
    rw [fX6_howManyTurned_L13.eq_2] at h
    rcases fr_i h with h | h
    · have h := Option.some.inj h
      subst h
      exact ⟨(Eqo.refl gwI_X6_howManyTurned I0_l13), (Eqo.refl gwM_X6_howManyTurned M0_l13)⟩
    · have c103 : ∀ q0 q1 q2 q3 R, (fX6_howManyTurned_L13 N x1 x2 v2 fu q0 q1 q2 q3) = some R → Eqo gwI_X6_howManyTurned R.2.1 q0 ∧ Eqo gwM_X6_howManyTurned R.2.2 q1 := by
          intro q0 q1 q2 q3 R h
          have a102 := ih _ _ _ _ _ h
          exact ⟨a102.1.tr (by decide) (Eqo.refl gwI_X6_howManyTurned q0), a102.2.tr (by decide) (Eqo.refl gwM_X6_howManyTurned q1)⟩
      have a1 := gr_fX6_howManyTurned_L22 c103 _ _ _ _ _ _ h
      exact ⟨a1.1.tr (by decide) (Eqo.refl gwI_X6_howManyTurned I0_l13), a1.2.tr (by decide) (Eqo.refl gwM_X6_howManyTurned M0_l13)⟩
theorem gr_fX6_howManyTurned {N : Nat} {I0 : Nat → Int32} {M0 : Nat → Nat → Int32} {x1 : Int32} {x2 : Int32} {R} (h : fX6_howManyTurned N I0 M0 x1 x2 = some R) : Eqo gwI_X6_howManyTurned R.2.1 I0 ∧ Eqo gwM_X6_howManyTurned R.2.2 M0 := by
  unfold fX6_howManyTurned at h
  obtain ⟨r1, e_r1, h⟩ := wb_b h
  have a1 := gr_fX6_setPlaces e_r1
  have fI_r1 := a1.1.tr (W := gwI_X6_howManyTurned) (by decide) (Eqo.refl gwI_X6_howManyTurned I0)
  have fM_r1 := a1.2.tr (W := gwM_X6_howManyTurned) (by decide) (Eqo.refl gwM_X6_howManyTurned M0)
  obtain ⟨v2, -, h⟩ := wb_v h
  have a2 := gr_fX6_howManyTurned_L13 _ _ _ _ _ _ h
  exact ⟨a2.1.tr (by decide) fI_r1, a2.2.tr (by decide) fM_r1⟩
noncomputable abbrev gwI_X7_tellLife : List Nat := []
noncomputable abbrev gwM_X7_tellLife : List Nat := [0, 1]
theorem gr_fX7_tellLife {N : Nat} {I0 : Nat → Int32} {M0 : Nat → Nat → Int32} {x1 : Int32} {x2 : Int32} {x3 : Int32} {R} (h : fX7_tellLife N I0 M0 x1 x2 x3 = some R) : Eqo gwI_X7_tellLife R.1 I0 ∧ Eqo gwM_X7_tellLife R.2 M0 := by
  unfold fX7_tellLife at h
  obtain ⟨-, h⟩ := wb_n h
  obtain ⟨M0_1, e_M0_1, h⟩ := wb_v h
  have f_M0_1 := Eqo.eq e_M0_1 (Eqo.m (by decide) (Eqo.refl gwM_X7_tellLife M0))
  obtain ⟨-, h⟩ := wb_n h
  obtain ⟨M0_2, e_M0_2, h⟩ := wb_v h
  have f_M0_2 := Eqo.eq e_M0_2 (Eqo.m (by decide) f_M0_1)
  have h := Option.some.inj h
  subst h
  exact ⟨(Eqo.refl gwI_X7_tellLife I0), f_M0_2⟩
noncomputable abbrev gwI_X7_tellFate : List Nat := []
noncomputable abbrev gwM_X7_tellFate : List Nat := [2]
theorem gr_fX7_tellFate {N : Nat} {I0 : Nat → Int32} {M0 : Nat → Nat → Int32} {x1 : Int32} {x2 : Int32} {R} (h : fX7_tellFate N I0 M0 x1 x2 = some R) : Eqo gwI_X7_tellFate R.1 I0 ∧ Eqo gwM_X7_tellFate R.2 M0 := by
  unfold fX7_tellFate at h
  obtain ⟨-, h⟩ := wb_n h
  obtain ⟨M0_1, e_M0_1, h⟩ := wb_v h
  have f_M0_1 := Eqo.eq e_M0_1 (Eqo.m (by decide) (Eqo.refl gwM_X7_tellFate M0))
  have h := Option.some.inj h
  subst h
  exact ⟨(Eqo.refl gwI_X7_tellFate I0), f_M0_1⟩
noncomputable abbrev gwI_X7_setRows : List Nat := []
noncomputable abbrev gwM_X7_setRows : List Nat := [3]
theorem gr_fX7_setRows_11_L4 {N : Nat} : ∀ fu I0_l4 M0_l4 y4_2 y4_3 R, fX7_setRows_11_L4 N fu I0_l4 M0_l4 y4_2 y4_3 = some R → Eqo gwI_X7_setRows R.2.1 I0_l4 ∧ Eqo gwM_X7_setRows R.2.2 M0_l4 := by
  intro fu
  induction fu with
  | zero => intro I0_l4 M0_l4 y4_2 y4_3 R h; cases (show none = some R from h)
  | succ fu ih =>
    intro I0_l4 M0_l4 y4_2 y4_3 R h
    rw [fX7_setRows_11_L4.eq_2] at h
    rcases fr_i h with h | h
    · have h := Option.some.inj h
      subst h
      exact ⟨(Eqo.refl gwI_X7_setRows I0_l4), (Eqo.refl gwM_X7_setRows M0_l4)⟩
    · obtain ⟨-, h⟩ := wb_n h
      rcases fr_i h with h | h
      · obtain ⟨v1, -, h⟩ := wb_v h
        have a1 := ih _ _ _ _ _ h
        exact ⟨a1.1.tr (by decide) (Eqo.refl gwI_X7_setRows I0_l4), a1.2.tr (by decide) (Eqo.refl gwM_X7_setRows M0_l4)⟩
      · obtain ⟨-, h⟩ := wb_n h
        obtain ⟨M0_2, e_M0_2, h⟩ := wb_v h
        have f_M0_2 := Eqo.eq e_M0_2 (Eqo.m (by decide) (Eqo.refl gwM_X7_setRows M0_l4))
        obtain ⟨v3, -, h⟩ := wb_v h
        obtain ⟨v4, -, h⟩ := wb_v h
        have a2 := ih _ _ _ _ _ h
        exact ⟨a2.1.tr (by decide) (Eqo.refl gwI_X7_setRows I0_l4), a2.2.tr (by decide) f_M0_2⟩
theorem gr_fX7_setRows_11 {N : Nat} {I0 : Nat → Int32} {M0 : Nat → Nat → Int32} {R} (h : fX7_setRows_11 N I0 M0 = some R) : Eqo gwI_X7_setRows R.2.1 I0 ∧ Eqo gwM_X7_setRows R.2.2 M0 := by
  unfold fX7_setRows_11 at h
  have a1 := gr_fX7_setRows_11_L4 _ _ _ _ _ _ h
  exact ⟨a1.1.tr (by decide) (Eqo.refl gwI_X7_setRows I0), a1.2.tr (by decide) (Eqo.refl gwM_X7_setRows M0)⟩
noncomputable abbrev gwI_X7_howManyLives : List Nat := []
noncomputable abbrev gwM_X7_howManyLives : List Nat := [3]
theorem gr_fX7_howManyLives {N : Nat} {I0 : Nat → Int32} {M0 : Nat → Nat → Int32} {R} (h : fX7_howManyLives N I0 M0 = some R) : Eqo gwI_X7_howManyLives R.2.1 I0 ∧ Eqo gwM_X7_howManyLives R.2.2 M0 := by
  unfold fX7_howManyLives at h
  obtain ⟨r1, e_r1, h⟩ := wb_b h
  have a1 := gr_fX7_setRows_11 e_r1
  have fI_r1 := a1.1.tr (W := gwI_X7_howManyLives) (by decide) (Eqo.refl gwI_X7_howManyLives I0)
  have fM_r1 := a1.2.tr (W := gwM_X7_howManyLives) (by decide) (Eqo.refl gwM_X7_howManyLives M0)
  have h := Option.some.inj h
  subst h
  exact ⟨fI_r1, fM_r1⟩
theorem gr_fX7_setRows_13_L4 {N : Nat} : ∀ fu I0_l4 M0_l4 y4_2 y4_3 R, fX7_setRows_13_L4 N fu I0_l4 M0_l4 y4_2 y4_3 = some R → Eqo gwI_X7_setRows R.2.1 I0_l4 ∧ Eqo gwM_X7_setRows R.2.2 M0_l4 := by
  intro fu
  induction fu with
  | zero => intro I0_l4 M0_l4 y4_2 y4_3 R h; cases (show none = some R from h)
  | succ fu ih =>
    intro I0_l4 M0_l4 y4_2 y4_3 R h
    rw [fX7_setRows_13_L4.eq_2] at h
    rcases fr_i h with h | h
    · have h := Option.some.inj h
      subst h
      exact ⟨(Eqo.refl gwI_X7_setRows I0_l4), (Eqo.refl gwM_X7_setRows M0_l4)⟩
    · obtain ⟨-, h⟩ := wb_n h
      rcases fr_i h with h | h
      · obtain ⟨v1, -, h⟩ := wb_v h
        have a1 := ih _ _ _ _ _ h
        exact ⟨a1.1.tr (by decide) (Eqo.refl gwI_X7_setRows I0_l4), a1.2.tr (by decide) (Eqo.refl gwM_X7_setRows M0_l4)⟩
      · obtain ⟨-, h⟩ := wb_n h
        obtain ⟨M0_2, e_M0_2, h⟩ := wb_v h
        have f_M0_2 := Eqo.eq e_M0_2 (Eqo.m (by decide) (Eqo.refl gwM_X7_setRows M0_l4))
        obtain ⟨v3, -, h⟩ := wb_v h
        obtain ⟨v4, -, h⟩ := wb_v h
        have a2 := ih _ _ _ _ _ h
        exact ⟨a2.1.tr (by decide) (Eqo.refl gwI_X7_setRows I0_l4), a2.2.tr (by decide) f_M0_2⟩
theorem gr_fX7_setRows_13 {N : Nat} {I0 : Nat → Int32} {M0 : Nat → Nat → Int32} {R} (h : fX7_setRows_13 N I0 M0 = some R) : Eqo gwI_X7_setRows R.2.1 I0 ∧ Eqo gwM_X7_setRows R.2.2 M0 := by
  unfold fX7_setRows_13 at h
  have a1 := gr_fX7_setRows_13_L4 _ _ _ _ _ _ h
  exact ⟨a1.1.tr (by decide) (Eqo.refl gwI_X7_setRows I0), a1.2.tr (by decide) (Eqo.refl gwM_X7_setRows M0)⟩
noncomputable abbrev gwI_X7_howManyFates : List Nat := []
noncomputable abbrev gwM_X7_howManyFates : List Nat := [3]
theorem gr_fX7_howManyFates {N : Nat} {I0 : Nat → Int32} {M0 : Nat → Nat → Int32} {R} (h : fX7_howManyFates N I0 M0 = some R) : Eqo gwI_X7_howManyFates R.2.1 I0 ∧ Eqo gwM_X7_howManyFates R.2.2 M0 := by
  unfold fX7_howManyFates at h
  obtain ⟨r1, e_r1, h⟩ := wb_b h
  have a1 := gr_fX7_setRows_13 e_r1
  have fI_r1 := a1.1.tr (W := gwI_X7_howManyFates) (by decide) (Eqo.refl gwI_X7_howManyFates I0)
  have fM_r1 := a1.2.tr (W := gwM_X7_howManyFates) (by decide) (Eqo.refl gwM_X7_howManyFates M0)
  have h := Option.some.inj h
  subst h
  exact ⟨fI_r1, fM_r1⟩
noncomputable abbrev gwI_X7_howManyHits : List Nat := []
noncomputable abbrev gwM_X7_howManyHits : List Nat := [3]
theorem gr_fX7_howManyHits_L14 {N : Nat} {x1 : Int32} {v2 : Int32} : ∀ fu I0_l14 M0_l14 y14_3 y14_4 R, fX7_howManyHits_L14 N x1 v2 fu I0_l14 M0_l14 y14_3 y14_4 = some R → Eqo gwI_X7_howManyHits R.2.1 I0_l14 ∧ Eqo gwM_X7_howManyHits R.2.2 M0_l14 := by
  intro fu
  induction fu with
  | zero => intro I0_l14 M0_l14 y14_3 y14_4 R h; cases (show none = some R from h)
  | succ fu ih =>
    intro I0_l14 M0_l14 y14_3 y14_4 R h
    rw [fX7_howManyHits_L14.eq_2] at h
    rcases fr_i h with h | h
    · have h := Option.some.inj h
      subst h
      exact ⟨(Eqo.refl gwI_X7_howManyHits I0_l14), (Eqo.refl gwM_X7_howManyHits M0_l14)⟩
    · obtain ⟨-, h⟩ := wb_n h
      obtain ⟨-, h⟩ := wb_n h
      obtain ⟨-, h⟩ := wb_n h
      obtain ⟨r3, -, h⟩ := wb_b h
      rcases fr_i h with h | h
      · obtain ⟨v4, -, h⟩ := wb_v h
        have a1 := ih _ _ _ _ _ h
        exact ⟨a1.1.tr (by decide) (Eqo.refl gwI_X7_howManyHits I0_l14), a1.2.tr (by decide) (Eqo.refl gwM_X7_howManyHits M0_l14)⟩
      · obtain ⟨v5, -, h⟩ := wb_v h
        obtain ⟨v6, -, h⟩ := wb_v h
        have a2 := ih _ _ _ _ _ h
        exact ⟨a2.1.tr (by decide) (Eqo.refl gwI_X7_howManyHits I0_l14), a2.2.tr (by decide) (Eqo.refl gwM_X7_howManyHits M0_l14)⟩
theorem gr_fX7_howManyHits {N : Nat} {I0 : Nat → Int32} {M0 : Nat → Nat → Int32} {x1 : Int32} {R} (h : fX7_howManyHits N I0 M0 x1 = some R) : Eqo gwI_X7_howManyHits R.2.1 I0 ∧ Eqo gwM_X7_howManyHits R.2.2 M0 := by
  unfold fX7_howManyHits at h
  obtain ⟨r1, e_r1, h⟩ := wb_b h
  have a1 := gr_fX7_setRows_11 e_r1
  have fI_r1 := a1.1.tr (W := gwI_X7_howManyHits) (by decide) (Eqo.refl gwI_X7_howManyHits I0)
  have fM_r1 := a1.2.tr (W := gwM_X7_howManyHits) (by decide) (Eqo.refl gwM_X7_howManyHits M0)
  obtain ⟨v2, -, h⟩ := wb_v h
  have a2 := gr_fX7_howManyHits_L14 _ _ _ _ _ _ h
  exact ⟨a2.1.tr (by decide) fI_r1, a2.2.tr (by decide) fM_r1⟩
noncomputable abbrev gwI_X7_layNext : List Nat := []
noncomputable abbrev gwM_X7_layNext : List Nat := [5]
theorem gr_fX7_layNext_L56 {N : Nat} {x1 : Int32} {x2 : Int32} {r1 : Int32} {v2 : Int32} {y43_4 : Int32} {z43_0 : Int32} {g8 : (Nat → Int32) → (Nat → Nat → Int32) → Int32 → Option ((Nat → Int32) × (Nat → Nat → Int32))} (hg8 : ∀ q0 q1 q2 R, g8 q0 q1 q2 = some R → Eqo gwI_X7_layNext R.1 q0 ∧ Eqo gwM_X7_layNext R.2 q1) : ∀ fu I0_l56 M0_l56 y56_7 R, fX7_layNext_L56 N x1 x2 r1 v2 y43_4 z43_0 g8 fu I0_l56 M0_l56 y56_7 = some R → Eqo gwI_X7_layNext R.1 I0_l56 ∧ Eqo gwM_X7_layNext R.2 M0_l56 := by
  intro fu
  induction fu with
  | zero => intro I0_l56 M0_l56 y56_7 R h; cases (show none = some R from h)
  | succ fu ih =>
    intro I0_l56 M0_l56 y56_7 R h
    rw [fX7_layNext_L56.eq_2] at h
    rcases fr_i h with h | h
    · obtain ⟨v3, -, h⟩ := wb_v h
      have a1 := hg8 _ _ _ _ h
      exact ⟨a1.1.tr (by decide) (Eqo.refl gwI_X7_layNext I0_l56), a1.2.tr (by decide) (Eqo.refl gwM_X7_layNext M0_l56)⟩
    · obtain ⟨-, h⟩ := wb_n h
      obtain ⟨-, h⟩ := wb_n h
      obtain ⟨-, h⟩ := wb_n h
      obtain ⟨M0_4, e_M0_4, h⟩ := wb_v h
      have f_M0_4 := Eqo.eq e_M0_4 (Eqo.m (by decide) (Eqo.refl gwM_X7_layNext M0_l56))
      obtain ⟨v5, -, h⟩ := wb_v h
      have a2 := ih _ _ _ _ h
      exact ⟨a2.1.tr (by decide) (Eqo.refl gwI_X7_layNext I0_l56), a2.2.tr (by decide) f_M0_4⟩
theorem gr_fX7_layNext_J43 {N : Nat} {x1 : Int32} {x2 : Int32} {r1 : Int32} {g8 : (Nat → Int32) → (Nat → Nat → Int32) → Int32 → Option ((Nat → Int32) × (Nat → Nat → Int32))} {I0_j43 : Nat → Int32} {M0_j43 : Nat → Nat → Int32} {y43_4 : Int32} {z43_0 : Int32} (hg8 : ∀ q0 q1 q2 R, g8 q0 q1 q2 = some R → Eqo gwI_X7_layNext R.1 q0 ∧ Eqo gwM_X7_layNext R.2 q1) {R} (h : fX7_layNext_J43 N x1 x2 r1 g8 I0_j43 M0_j43 y43_4 z43_0 = some R) : Eqo gwI_X7_layNext R.1 I0_j43 ∧ Eqo gwM_X7_layNext R.2 M0_j43 := by
  unfold fX7_layNext_J43 at h
  obtain ⟨v2, -, h⟩ := wb_v h
  have a1 := gr_fX7_layNext_L56 hg8 _ _ _ _ _ h
  exact ⟨a1.1.tr (by decide) (Eqo.refl gwI_X7_layNext I0_j43), a1.2.tr (by decide) (Eqo.refl gwM_X7_layNext M0_j43)⟩
theorem gr_fX7_layNext_L8 {N : Nat} {x1 : Int32} {x2 : Int32} {r1 : Int32} : ∀ fu I0_l8 M0_l8 y8_4 R, fX7_layNext_L8 N x1 x2 r1 fu I0_l8 M0_l8 y8_4 = some R → Eqo gwI_X7_layNext R.1 I0_l8 ∧ Eqo gwM_X7_layNext R.2 M0_l8 := by
  intro fu
  induction fu with
  | zero => intro I0_l8 M0_l8 y8_4 R h; cases (show none = some R from h)
  | succ fu ih =>
    intro I0_l8 M0_l8 y8_4 R h
    rw [fX7_layNext_L8.eq_2] at h
    rcases fr_i h with h | h
    · have h := Option.some.inj h
      subst h
      exact ⟨(Eqo.refl gwI_X7_layNext I0_l8), (Eqo.refl gwM_X7_layNext M0_l8)⟩
    · rcases fr_i h with h | h
      · obtain ⟨-, h⟩ := wb_n h
        rcases fr_i h with h | h
        · have c103 : ∀ q0 q1 q2 R, (fX7_layNext_L8 N x1 x2 r1 fu q0 q1 q2) = some R → Eqo gwI_X7_layNext R.1 q0 ∧ Eqo gwM_X7_layNext R.2 q1 := by
              intro q0 q1 q2 R h
              have a102 := ih _ _ _ _ h
              exact ⟨a102.1.tr (by decide) (Eqo.refl gwI_X7_layNext q0), a102.2.tr (by decide) (Eqo.refl gwM_X7_layNext q1)⟩
          have a1 := gr_fX7_layNext_J43 c103 h
          exact ⟨a1.1.tr (by decide) (Eqo.refl gwI_X7_layNext I0_l8), a1.2.tr (by decide) (Eqo.refl gwM_X7_layNext M0_l8)⟩
        · have c206 : ∀ q0 q1 q2 R, (fX7_layNext_L8 N x1 x2 r1 fu q0 q1 q2) = some R → Eqo gwI_X7_layNext R.1 q0 ∧ Eqo gwM_X7_layNext R.2 q1 := by
              intro q0 q1 q2 R h
              have a205 := ih _ _ _ _ h
              exact ⟨a205.1.tr (by decide) (Eqo.refl gwI_X7_layNext q0), a205.2.tr (by decide) (Eqo.refl gwM_X7_layNext q1)⟩
          have a104 := gr_fX7_layNext_J43 c206 h
          exact ⟨a104.1.tr (by decide) (Eqo.refl gwI_X7_layNext I0_l8), a104.2.tr (by decide) (Eqo.refl gwM_X7_layNext M0_l8)⟩
      · obtain ⟨v6, -, h⟩ := wb_v h
        have a207 := ih _ _ _ _ h
        exact ⟨a207.1.tr (by decide) (Eqo.refl gwI_X7_layNext I0_l8), a207.2.tr (by decide) (Eqo.refl gwM_X7_layNext M0_l8)⟩
theorem gr_fX7_layNext {N : Nat} {I0 : Nat → Int32} {M0 : Nat → Nat → Int32} {x1 : Int32} {x2 : Int32} {R} (h : fX7_layNext N I0 M0 x1 x2 = some R) : Eqo gwI_X7_layNext R.1 I0 ∧ Eqo gwM_X7_layNext R.2 M0 := by
  unfold fX7_layNext at h
  obtain ⟨r1, -, h⟩ := wb_b h
  have a1 := gr_fX7_layNext_L8 _ _ _ _ _ h
  exact ⟨a1.1.tr (by decide) (Eqo.refl gwI_X7_layNext I0), a1.2.tr (by decide) (Eqo.refl gwM_X7_layNext M0)⟩
noncomputable abbrev gwI_X7_waysToHit : List Nat := []
noncomputable abbrev gwM_X7_waysToHit : List Nat := [5]
theorem gr_fX7_waysToHit_L49 {N : Nat} {x1 : Int32} {x2 : Int32} {v1 : Int32} {g24 : (Nat → Int32) → (Nat → Nat → Int32) → Int32 → Option (Int32 × (Nat → Int32) × (Nat → Nat → Int32))} (hg24 : ∀ q0 q1 q2 R, g24 q0 q1 q2 = some R → Eqo gwI_X7_waysToHit R.2.1 q0 ∧ Eqo gwM_X7_waysToHit R.2.2 q1) : ∀ fu I0_l49 M0_l49 y49_4 y49_5 R, fX7_waysToHit_L49 N x1 x2 v1 g24 fu I0_l49 M0_l49 y49_4 y49_5 = some R → Eqo gwI_X7_waysToHit R.2.1 I0_l49 ∧ Eqo gwM_X7_waysToHit R.2.2 M0_l49 := by
  intro fu
  induction fu with
  | zero => intro I0_l49 M0_l49 y49_4 y49_5 R h; cases (show none = some R from h)
  | succ fu ih =>
    intro I0_l49 M0_l49 y49_4 y49_5 R h
    rw [fX7_waysToHit_L49.eq_2] at h
    rcases fr_i h with h | h
    · have h := Option.some.inj h
      subst h
      exact ⟨(Eqo.refl gwI_X7_waysToHit I0_l49), (Eqo.refl gwM_X7_waysToHit M0_l49)⟩
    · obtain ⟨-, h⟩ := wb_n h
      obtain ⟨v5, -, h⟩ := wb_v h
      obtain ⟨v6, -, h⟩ := wb_v h
      have a1 := ih _ _ _ _ _ h
      exact ⟨a1.1.tr (by decide) (Eqo.refl gwI_X7_waysToHit I0_l49), a1.2.tr (by decide) (Eqo.refl gwM_X7_waysToHit M0_l49)⟩
theorem gr_fX7_waysToHit_L24 {N : Nat} {x1 : Int32} {x2 : Int32} {v1 : Int32} : ∀ fu I0_l24 M0_l24 y24_4 R, fX7_waysToHit_L24 N x1 x2 v1 fu I0_l24 M0_l24 y24_4 = some R → Eqo gwI_X7_waysToHit R.2.1 I0_l24 ∧ Eqo gwM_X7_waysToHit R.2.2 M0_l24 := by
  intro fu
  induction fu with
  | zero => intro I0_l24 M0_l24 y24_4 R h; cases (show none = some R from h)
  | succ fu ih =>
    intro I0_l24 M0_l24 y24_4 R h
    rw [fX7_waysToHit_L24.eq_2] at h
    rcases fr_i h with h | h
    · have c103 : ∀ q0 q1 q2 R, (fX7_waysToHit_L24 N x1 x2 v1 fu q0 q1 q2) = some R → Eqo gwI_X7_waysToHit R.2.1 q0 ∧ Eqo gwM_X7_waysToHit R.2.2 q1 := by
          intro q0 q1 q2 R h
          have a102 := ih _ _ _ _ h
          exact ⟨a102.1.tr (by decide) (Eqo.refl gwI_X7_waysToHit q0), a102.2.tr (by decide) (Eqo.refl gwM_X7_waysToHit q1)⟩
      have a1 := gr_fX7_waysToHit_L49 c103 _ _ _ _ _ _ h
      exact ⟨a1.1.tr (by decide) (Eqo.refl gwI_X7_waysToHit I0_l24), a1.2.tr (by decide) (Eqo.refl gwM_X7_waysToHit M0_l24)⟩
    · obtain ⟨r7, e_r7, h⟩ := wb_b h
      have a104 := gr_fX7_layNext e_r7
      have fI_r7 := a104.1.tr (W := gwI_X7_waysToHit) (by decide) (Eqo.refl gwI_X7_waysToHit I0_l24)
      have fM_r7 := a104.2.tr (W := gwM_X7_waysToHit) (by decide) (Eqo.refl gwM_X7_waysToHit M0_l24)
      obtain ⟨v8, -, h⟩ := wb_v h
      have a105 := ih _ _ _ _ h
      exact ⟨a105.1.tr (by decide) fI_r7, a105.2.tr (by decide) fM_r7⟩
theorem gr_fX7_waysToHit {N : Nat} {I0 : Nat → Int32} {M0 : Nat → Nat → Int32} {x1 : Int32} {x2 : Int32} {R} (h : fX7_waysToHit N I0 M0 x1 x2 = some R) : Eqo gwI_X7_waysToHit R.2.1 I0 ∧ Eqo gwM_X7_waysToHit R.2.2 M0 := by
  unfold fX7_waysToHit at h
  obtain ⟨v1, -, h⟩ := wb_v h
  obtain ⟨r2, -, h⟩ := wb_b h
  obtain ⟨M0_3, e_M0_3, h⟩ := wb_v h
  have f_M0_3 := Eqo.eq e_M0_3 (Eqo.mm (by decide) (Eqo.refl gwM_X7_waysToHit M0))
  obtain ⟨-, h⟩ := wb_n h
  obtain ⟨M0_4, e_M0_4, h⟩ := wb_v h
  have f_M0_4 := Eqo.eq e_M0_4 (Eqo.m (by decide) f_M0_3)
  have a1 := gr_fX7_waysToHit_L24 _ _ _ _ _ h
  exact ⟨a1.1.tr (by decide) (Eqo.refl gwI_X7_waysToHit I0), a1.2.tr (by decide) f_M0_4⟩
noncomputable abbrev gwI_X7_chanceOfLives : List Nat := []
noncomputable abbrev gwM_X7_chanceOfLives : List Nat := [3, 4, 5]
theorem gr_fX7_chanceOfLives_L27 {N : Nat} {x1 : Int32} {v2 : Int32} {y19_3 : Int32} {g19 : (Nat → Int32) → (Nat → Nat → Int32) → Int32 → Option (Int32 × (Nat → Int32) × (Nat → Nat → Int32))} (hg19 : ∀ q0 q1 q2 R, g19 q0 q1 q2 = some R → Eqo gwI_X7_chanceOfLives R.2.1 q0 ∧ Eqo gwM_X7_chanceOfLives R.2.2 q1) : ∀ fu I0_l27 M0_l27 y27_4 R, fX7_chanceOfLives_L27 N x1 v2 y19_3 g19 fu I0_l27 M0_l27 y27_4 = some R → Eqo gwI_X7_chanceOfLives R.2.1 I0_l27 ∧ Eqo gwM_X7_chanceOfLives R.2.2 M0_l27 := by
  intro fu
  induction fu with
  | zero => intro I0_l27 M0_l27 y27_4 R h; cases (show none = some R from h)
  | succ fu ih =>
    intro I0_l27 M0_l27 y27_4 R h
    rw [fX7_chanceOfLives_L27.eq_2] at h
    rcases fr_i h with h | h
    · obtain ⟨v5, -, h⟩ := wb_v h
      have a1 := hg19 _ _ _ _ h
      exact ⟨a1.1.tr (by decide) (Eqo.refl gwI_X7_chanceOfLives I0_l27), a1.2.tr (by decide) (Eqo.refl gwM_X7_chanceOfLives M0_l27)⟩
    · obtain ⟨-, h⟩ := wb_n h
      obtain ⟨-, h⟩ := wb_n h
      obtain ⟨-, h⟩ := wb_n h
      obtain ⟨r6, -, h⟩ := wb_b h
      obtain ⟨-, h⟩ := wb_n h
      obtain ⟨M0_7, e_M0_7, h⟩ := wb_v h
      have f_M0_7 := Eqo.eq e_M0_7 (Eqo.m (by decide) (Eqo.refl gwM_X7_chanceOfLives M0_l27))
      obtain ⟨v8, -, h⟩ := wb_v h
      have a2 := ih _ _ _ _ h
      exact ⟨a2.1.tr (by decide) (Eqo.refl gwI_X7_chanceOfLives I0_l27), a2.2.tr (by decide) f_M0_7⟩
theorem gr_fX7_chanceOfLives_L19 {N : Nat} {x1 : Int32} {v2 : Int32} : ∀ fu I0_l19 M0_l19 y19_3 R, fX7_chanceOfLives_L19 N x1 v2 fu I0_l19 M0_l19 y19_3 = some R → Eqo gwI_X7_chanceOfLives R.2.1 I0_l19 ∧ Eqo gwM_X7_chanceOfLives R.2.2 M0_l19 := by
  intro fu
  induction fu with
  | zero => intro I0_l19 M0_l19 y19_3 R h; cases (show none = some R from h)
  | succ fu ih =>
    intro I0_l19 M0_l19 y19_3 R h
    rw [fX7_chanceOfLives_L19.eq_2] at h
    rcases fr_i h with h | h
    · obtain ⟨r3, e_r3, h⟩ := wb_b h
      have a1 := gr_fX7_howManyHits e_r3
      have fI_r3 := a1.1.tr (W := gwI_X7_chanceOfLives) (by decide) (Eqo.refl gwI_X7_chanceOfLives I0_l19)
      have fM_r3 := a1.2.tr (W := gwM_X7_chanceOfLives) (by decide) (Eqo.refl gwM_X7_chanceOfLives M0_l19)
      obtain ⟨r4, e_r4, h⟩ := wb_b h
      have a2 := gr_fX7_waysToHit e_r4
      have fI_r4 := a2.1.tr (W := gwI_X7_chanceOfLives) (by decide) fI_r3
      have fM_r4 := a2.2.tr (W := gwM_X7_chanceOfLives) (by decide) fM_r3
      have h := Option.some.inj h
      subst h
      exact ⟨fI_r4, fM_r4⟩
    · have c105 : ∀ q0 q1 q2 R, (fX7_chanceOfLives_L19 N x1 v2 fu q0 q1 q2) = some R → Eqo gwI_X7_chanceOfLives R.2.1 q0 ∧ Eqo gwM_X7_chanceOfLives R.2.2 q1 := by
          intro q0 q1 q2 R h
          have a104 := ih _ _ _ _ h
          exact ⟨a104.1.tr (by decide) (Eqo.refl gwI_X7_chanceOfLives q0), a104.2.tr (by decide) (Eqo.refl gwM_X7_chanceOfLives q1)⟩
      have a3 := gr_fX7_chanceOfLives_L27 c105 _ _ _ _ _ h
      exact ⟨a3.1.tr (by decide) (Eqo.refl gwI_X7_chanceOfLives I0_l19), a3.2.tr (by decide) (Eqo.refl gwM_X7_chanceOfLives M0_l19)⟩
theorem gr_fX7_chanceOfLives {N : Nat} {I0 : Nat → Int32} {M0 : Nat → Nat → Int32} {x1 : Int32} {R} (h : fX7_chanceOfLives N I0 M0 x1 = some R) : Eqo gwI_X7_chanceOfLives R.2.1 I0 ∧ Eqo gwM_X7_chanceOfLives R.2.2 M0 := by
  unfold fX7_chanceOfLives at h
  obtain ⟨r1, e_r1, h⟩ := wb_b h
  have a1 := gr_fX7_setRows_11 e_r1
  have fI_r1 := a1.1.tr (W := gwI_X7_chanceOfLives) (by decide) (Eqo.refl gwI_X7_chanceOfLives I0)
  have fM_r1 := a1.2.tr (W := gwM_X7_chanceOfLives) (by decide) (Eqo.refl gwM_X7_chanceOfLives M0)
  obtain ⟨v2, -, h⟩ := wb_v h
  rcases fr_i h with h | h
  · have a2 := gr_fX7_chanceOfLives_L19 _ _ _ _ _ h
    exact ⟨a2.1.tr (by decide) fI_r1, a2.2.tr (by decide) fM_r1⟩
  · have h := Option.some.inj h
    subst h
    exact ⟨fI_r1, fM_r1⟩
noncomputable abbrev gwI_X7_howManyToldByLot : List Nat := []
noncomputable abbrev gwM_X7_howManyToldByLot : List Nat := [3]
theorem gr_fX7_howManyToldByLot_L14 {N : Nat} {I1 : Nat → Int32} {M1 : Nat → Nat → Int32} {v2 : Int32} : ∀ fu I0_l14 M0_l14 y14_3 y14_4 R, fX7_howManyToldByLot_L14 N I1 M1 v2 fu I0_l14 M0_l14 y14_3 y14_4 = some R → Eqo gwI_X7_howManyToldByLot R.2.1 I0_l14 ∧ Eqo gwM_X7_howManyToldByLot R.2.2 M0_l14 := by
  intro fu
  induction fu with
  | zero => intro I0_l14 M0_l14 y14_3 y14_4 R h; cases (show none = some R from h)
  | succ fu ih =>
    intro I0_l14 M0_l14 y14_3 y14_4 R h
    rw [fX7_howManyToldByLot_L14.eq_2] at h
    rcases fr_i h with h | h
    · have h := Option.some.inj h
      subst h
      exact ⟨(Eqo.refl gwI_X7_howManyToldByLot I0_l14), (Eqo.refl gwM_X7_howManyToldByLot M0_l14)⟩
    · obtain ⟨-, h⟩ := wb_n h
      obtain ⟨-, h⟩ := wb_n h
      obtain ⟨-, h⟩ := wb_n h
      obtain ⟨r3, -, h⟩ := wb_b h
      rcases fr_i h with h | h
      · obtain ⟨v4, -, h⟩ := wb_v h
        have a1 := ih _ _ _ _ _ h
        exact ⟨a1.1.tr (by decide) (Eqo.refl gwI_X7_howManyToldByLot I0_l14), a1.2.tr (by decide) (Eqo.refl gwM_X7_howManyToldByLot M0_l14)⟩
      · obtain ⟨v5, -, h⟩ := wb_v h
        obtain ⟨v6, -, h⟩ := wb_v h
        have a2 := ih _ _ _ _ _ h
        exact ⟨a2.1.tr (by decide) (Eqo.refl gwI_X7_howManyToldByLot I0_l14), a2.2.tr (by decide) (Eqo.refl gwM_X7_howManyToldByLot M0_l14)⟩
theorem gr_fX7_howManyToldByLot {N : Nat} {I0 : Nat → Int32} {M0 : Nat → Nat → Int32} {I1 : Nat → Int32} {M1 : Nat → Nat → Int32} {R} (h : fX7_howManyToldByLot N I0 M0 I1 M1 = some R) : Eqo gwI_X7_howManyToldByLot R.2.1 I0 ∧ Eqo gwM_X7_howManyToldByLot R.2.2 M0 := by
  unfold fX7_howManyToldByLot at h
  obtain ⟨r1, e_r1, h⟩ := wb_b h
  have a1 := gr_fX7_setRows_13 e_r1
  have fI_r1 := a1.1.tr (W := gwI_X7_howManyToldByLot) (by decide) (Eqo.refl gwI_X7_howManyToldByLot I0)
  have fM_r1 := a1.2.tr (W := gwM_X7_howManyToldByLot) (by decide) (Eqo.refl gwM_X7_howManyToldByLot M0)
  obtain ⟨v2, -, h⟩ := wb_v h
  have a2 := gr_fX7_howManyToldByLot_L14 _ _ _ _ _ _ h
  exact ⟨a2.1.tr (by decide) fI_r1, a2.2.tr (by decide) fM_r1⟩
noncomputable abbrev gwI_X7_chanceOfFates : List Nat := []
noncomputable abbrev gwM_X7_chanceOfFates : List Nat := [3, 4, 5]
theorem gr_fX7_chanceOfFates_L27 {N : Nat} {I1 : Nat → Int32} {M1 : Nat → Nat → Int32} {v2 : Int32} {y19_3 : Int32} {g19 : (Nat → Int32) → (Nat → Nat → Int32) → Int32 → Option (Int32 × (Nat → Int32) × (Nat → Nat → Int32))} (hg19 : ∀ q0 q1 q2 R, g19 q0 q1 q2 = some R → Eqo gwI_X7_chanceOfFates R.2.1 q0 ∧ Eqo gwM_X7_chanceOfFates R.2.2 q1) : ∀ fu I0_l27 M0_l27 y27_4 R, fX7_chanceOfFates_L27 N I1 M1 v2 y19_3 g19 fu I0_l27 M0_l27 y27_4 = some R → Eqo gwI_X7_chanceOfFates R.2.1 I0_l27 ∧ Eqo gwM_X7_chanceOfFates R.2.2 M0_l27 := by
  intro fu
  induction fu with
  | zero => intro I0_l27 M0_l27 y27_4 R h; cases (show none = some R from h)
  | succ fu ih =>
    intro I0_l27 M0_l27 y27_4 R h
    rw [fX7_chanceOfFates_L27.eq_2] at h
    rcases fr_i h with h | h
    · obtain ⟨v5, -, h⟩ := wb_v h
      have a1 := hg19 _ _ _ _ h
      exact ⟨a1.1.tr (by decide) (Eqo.refl gwI_X7_chanceOfFates I0_l27), a1.2.tr (by decide) (Eqo.refl gwM_X7_chanceOfFates M0_l27)⟩
    · obtain ⟨-, h⟩ := wb_n h
      obtain ⟨-, h⟩ := wb_n h
      obtain ⟨-, h⟩ := wb_n h
      obtain ⟨r6, -, h⟩ := wb_b h
      obtain ⟨-, h⟩ := wb_n h
      obtain ⟨M0_7, e_M0_7, h⟩ := wb_v h
      have f_M0_7 := Eqo.eq e_M0_7 (Eqo.m (by decide) (Eqo.refl gwM_X7_chanceOfFates M0_l27))
      obtain ⟨v8, -, h⟩ := wb_v h
      have a2 := ih _ _ _ _ h
      exact ⟨a2.1.tr (by decide) (Eqo.refl gwI_X7_chanceOfFates I0_l27), a2.2.tr (by decide) f_M0_7⟩
theorem gr_fX7_chanceOfFates_L19 {N : Nat} {I1 : Nat → Int32} {M1 : Nat → Nat → Int32} {v2 : Int32} : ∀ fu I0_l19 M0_l19 y19_3 R, fX7_chanceOfFates_L19 N I1 M1 v2 fu I0_l19 M0_l19 y19_3 = some R → Eqo gwI_X7_chanceOfFates R.2.1 I0_l19 ∧ Eqo gwM_X7_chanceOfFates R.2.2 M0_l19 := by
  intro fu
  induction fu with
  | zero => intro I0_l19 M0_l19 y19_3 R h; cases (show none = some R from h)
  | succ fu ih =>
    intro I0_l19 M0_l19 y19_3 R h
    rw [fX7_chanceOfFates_L19.eq_2] at h
    rcases fr_i h with h | h
    · obtain ⟨r3, e_r3, h⟩ := wb_b h
      have a1 := gr_fX7_howManyToldByLot e_r3
      have fI_r3 := a1.1.tr (W := gwI_X7_chanceOfFates) (by decide) (Eqo.refl gwI_X7_chanceOfFates I0_l19)
      have fM_r3 := a1.2.tr (W := gwM_X7_chanceOfFates) (by decide) (Eqo.refl gwM_X7_chanceOfFates M0_l19)
      obtain ⟨r4, e_r4, h⟩ := wb_b h
      have a2 := gr_fX7_waysToHit e_r4
      have fI_r4 := a2.1.tr (W := gwI_X7_chanceOfFates) (by decide) fI_r3
      have fM_r4 := a2.2.tr (W := gwM_X7_chanceOfFates) (by decide) fM_r3
      have h := Option.some.inj h
      subst h
      exact ⟨fI_r4, fM_r4⟩
    · have c105 : ∀ q0 q1 q2 R, (fX7_chanceOfFates_L19 N I1 M1 v2 fu q0 q1 q2) = some R → Eqo gwI_X7_chanceOfFates R.2.1 q0 ∧ Eqo gwM_X7_chanceOfFates R.2.2 q1 := by
          intro q0 q1 q2 R h
          have a104 := ih _ _ _ _ h
          exact ⟨a104.1.tr (by decide) (Eqo.refl gwI_X7_chanceOfFates q0), a104.2.tr (by decide) (Eqo.refl gwM_X7_chanceOfFates q1)⟩
      have a3 := gr_fX7_chanceOfFates_L27 c105 _ _ _ _ _ h
      exact ⟨a3.1.tr (by decide) (Eqo.refl gwI_X7_chanceOfFates I0_l19), a3.2.tr (by decide) (Eqo.refl gwM_X7_chanceOfFates M0_l19)⟩
theorem gr_fX7_chanceOfFates {N : Nat} {I0 : Nat → Int32} {M0 : Nat → Nat → Int32} {I1 : Nat → Int32} {M1 : Nat → Nat → Int32} {R} (h : fX7_chanceOfFates N I0 M0 I1 M1 = some R) : Eqo gwI_X7_chanceOfFates R.2.1 I0 ∧ Eqo gwM_X7_chanceOfFates R.2.2 M0 := by
  unfold fX7_chanceOfFates at h
  obtain ⟨r1, e_r1, h⟩ := wb_b h
  have a1 := gr_fX7_setRows_13 e_r1
  have fI_r1 := a1.1.tr (W := gwI_X7_chanceOfFates) (by decide) (Eqo.refl gwI_X7_chanceOfFates I0)
  have fM_r1 := a1.2.tr (W := gwM_X7_chanceOfFates) (by decide) (Eqo.refl gwM_X7_chanceOfFates M0)
  obtain ⟨v2, -, h⟩ := wb_v h
  rcases fr_i h with h | h
  · have a2 := gr_fX7_chanceOfFates_L19 _ _ _ _ _ h
    exact ⟨a2.1.tr (by decide) fI_r1, a2.2.tr (by decide) fM_r1⟩
  · have h := Option.some.inj h
    subst h
    exact ⟨fI_r1, fM_r1⟩
noncomputable abbrev gwI_X11_count : List Nat := []
noncomputable abbrev gwM_X11_count : List Nat := [31]
theorem gr_fX11_count {N : Nat} {I0 : Nat → Int32} {M0 : Nat → Nat → Int32} {x1 : Int32} {R} (h : fX11_count N I0 M0 x1 = some (.inr R)) : Eqo gwI_X11_count R.2.1 I0 ∧ Eqo gwM_X11_count R.2.2 M0 := by
  unfold fX11_count at h
  rcases fr_i h with h | h
  · have h := wb_okr h
    have h := Option.some.inj h
    subst h
    exact ⟨(Eqo.refl gwI_X11_count I0), (Eqo.refl gwM_X11_count M0)⟩
  · rcases fr_i h with h | h
    · have h := wb_okr h
      have h := Option.some.inj h
      subst h
      exact ⟨(Eqo.refl gwI_X11_count I0), (Eqo.refl gwM_X11_count M0)⟩
    · rcases fr_i h with h | h
      · have h := wb_okr h
        obtain ⟨r1, -, h⟩ := wb_b h
        have h := Option.some.inj h
        subst h
        exact ⟨(Eqo.refl gwI_X11_count I0), (Eqo.refl gwM_X11_count M0)⟩
      · rcases fr_i h with h | h
        · have h := wb_okr h
          obtain ⟨r2, e_r2, h⟩ := wb_b h
          have sf_r2 := gr_fX7_howManyLives e_r2
          obtain ⟨I0_3, e_I0_3, h⟩ := wb_v h
          have f_I0_3 := Eqo.eq e_I0_3 (Eqo.ip sf_r2.1 (by decide) (Eqo.refl gwI_X11_count I0))
          obtain ⟨M0_4, e_M0_4, h⟩ := wb_v h
          have f_M0_4 := Eqo.eq e_M0_4 (Eqo.ip sf_r2.2 (by decide) (Eqo.refl gwM_X11_count M0))
          have h := Option.some.inj h
          subst h
          exact ⟨f_I0_3, f_M0_4⟩
        · rcases fr_i h with h | h
          · have h := wb_okr h
            have h := Option.some.inj h
            subst h
            exact ⟨(Eqo.refl gwI_X11_count I0), (Eqo.refl gwM_X11_count M0)⟩
          · rcases fr_i h with h | h
            · have h := wb_okr h
              obtain ⟨r5, e_r5, h⟩ := wb_b h
              have sf_r5 := gr_fX7_howManyFates e_r5
              obtain ⟨I0_6, e_I0_6, h⟩ := wb_v h
              have f_I0_6 := Eqo.eq e_I0_6 (Eqo.ip sf_r5.1 (by decide) (Eqo.refl gwI_X11_count I0))
              obtain ⟨M0_7, e_M0_7, h⟩ := wb_v h
              have f_M0_7 := Eqo.eq e_M0_7 (Eqo.ip sf_r5.2 (by decide) (Eqo.refl gwM_X11_count M0))
              have h := Option.some.inj h
              subst h
              exact ⟨f_I0_6, f_M0_7⟩
            · cases h
noncomputable abbrev gwI_X11_leaf : List Nat := []
noncomputable abbrev gwM_X11_leaf : List Nat := [23, 24]
theorem gr_fX11_leaf_J21 {N : Nat} {x1 : Int32} {x2 : Int32} {I0_j21 : Nat → Int32} {M0_j21 : Nat → Nat → Int32} {R} (h : fX11_leaf_J21 N x1 x2 I0_j21 M0_j21 = some (.inr R)) : Eqo gwI_X11_leaf R.2.1 I0_j21 ∧ Eqo gwM_X11_leaf R.2.2 M0_j21 := by
  unfold fX11_leaf_J21 at h
  obtain ⟨r1, -, h⟩ := wb_xr h
  have h := wb_okr h
  obtain ⟨r2, e_r2, h⟩ := wb_b h
  have sf_r2 := gr_fX6_addTo e_r2
  obtain ⟨I0_3, e_I0_3, h⟩ := wb_v h
  have f_I0_3 := Eqo.eq e_I0_3 (Eqo.ip sf_r2.1 (by decide) (Eqo.refl gwI_X11_leaf I0_j21))
  obtain ⟨M0_4, e_M0_4, h⟩ := wb_v h
  have f_M0_4 := Eqo.eq e_M0_4 (Eqo.ip sf_r2.2 (by decide) (Eqo.refl gwM_X11_leaf M0_j21))
  have h := Option.some.inj h
  subst h
  exact ⟨f_I0_3, f_M0_4⟩
theorem gr_fX11_leaf {N : Nat} {I0 : Nat → Int32} {M0 : Nat → Nat → Int32} {x1 : Int32} {x2 : Int32} {R} (h : fX11_leaf N I0 M0 x1 x2 = some (.inr R)) : Eqo gwI_X11_leaf R.2.1 I0 ∧ Eqo gwM_X11_leaf R.2.2 M0 := by
  unfold fX11_leaf at h
  obtain ⟨r5, -, h⟩ := wb_b h
  rcases fr_i h with h | h
  · have a1 := gr_fX11_leaf_J21 h
    exact ⟨a1.1.tr (by decide) (Eqo.refl gwI_X11_leaf I0), a1.2.tr (by decide) (Eqo.refl gwM_X11_leaf M0)⟩
  · obtain ⟨r6, -, h⟩ := wb_b h
    rcases fr_i h with h | h
    · have a2 := gr_fX11_leaf_J21 h
      exact ⟨a2.1.tr (by decide) (Eqo.refl gwI_X11_leaf I0), a2.2.tr (by decide) (Eqo.refl gwM_X11_leaf M0)⟩
    · obtain ⟨r7, -, h⟩ := wb_xr h
      have h := wb_okr h
      obtain ⟨r8, e_r8, h⟩ := wb_b h
      have sf_r8 := gr_fX6_addTo e_r8
      obtain ⟨I0_9, e_I0_9, h⟩ := wb_v h
      have f_I0_9 := Eqo.eq e_I0_9 (Eqo.ip sf_r8.1 (by decide) (Eqo.refl gwI_X11_leaf I0))
      obtain ⟨M0_10, e_M0_10, h⟩ := wb_v h
      have f_M0_10 := Eqo.eq e_M0_10 (Eqo.ip sf_r8.2 (by decide) (Eqo.refl gwM_X11_leaf M0))
      have h := Option.some.inj h
      subst h
      exact ⟨f_I0_9, f_M0_10⟩
noncomputable abbrev gwI_X11_order : List Nat := []
noncomputable abbrev gwM_X11_order : List Nat := [25, 26]
theorem gr_fX11_order_J28 {N : Nat} {x1 : Int32} {x2 : Int32} {x3 : Int32} {I0_j28 : Nat → Int32} {M0_j28 : Nat → Nat → Int32} {z28_0 : Int32} {R} (h : fX11_order_J28 N x1 x2 x3 I0_j28 M0_j28 z28_0 = some (.inr R)) : Eqo gwI_X11_order R.2.1 I0_j28 ∧ Eqo gwM_X11_order R.2.2 M0_j28 := by
  unfold fX11_order_J28 at h
  obtain ⟨r1, -, h⟩ := wb_xr h
  have h := wb_okr h
  rcases fr_i h with h | h
  · obtain ⟨r5, e_r5, h⟩ := wb_b h
    have sf_r5 := gr_fX6_howManyInOrder e_r5
    obtain ⟨I0_6, e_I0_6, h⟩ := wb_v h
    have f_I0_6 := Eqo.eq e_I0_6 (Eqo.ip sf_r5.1 (by decide) (Eqo.refl gwI_X11_order I0_j28))
    obtain ⟨M0_7, e_M0_7, h⟩ := wb_v h
    have f_M0_7 := Eqo.eq e_M0_7 (Eqo.ip sf_r5.2 (by decide) (Eqo.refl gwM_X11_order M0_j28))
    have h := Option.some.inj h
    subst h
    exact ⟨f_I0_6, f_M0_7⟩
  · obtain ⟨r2, e_r2, h⟩ := wb_b h
    have sf_r2 := gr_fX6_howManyTurned e_r2
    obtain ⟨I0_3, e_I0_3, h⟩ := wb_v h
    have f_I0_3 := Eqo.eq e_I0_3 (Eqo.ip sf_r2.1 (by decide) (Eqo.refl gwI_X11_order I0_j28))
    obtain ⟨M0_4, e_M0_4, h⟩ := wb_v h
    have f_M0_4 := Eqo.eq e_M0_4 (Eqo.ip sf_r2.2 (by decide) (Eqo.refl gwM_X11_order M0_j28))
    have h := Option.some.inj h
    subst h
    exact ⟨f_I0_3, f_M0_4⟩
theorem gr_fX11_order_J27 {N : Nat} {x1 : Int32} {x2 : Int32} {x3 : Int32} {I0_j27 : Nat → Int32} {M0_j27 : Nat → Nat → Int32} {R} (h : fX11_order_J27 N x1 x2 x3 I0_j27 M0_j27 = some (.inr R)) : Eqo gwI_X11_order R.2.1 I0_j27 ∧ Eqo gwM_X11_order R.2.2 M0_j27 := by
  unfold fX11_order_J27 at h
  have a1 := gr_fX11_order_J28 h
  exact ⟨a1.1.tr (by decide) (Eqo.refl gwI_X11_order I0_j27), a1.2.tr (by decide) (Eqo.refl gwM_X11_order M0_j27)⟩
theorem gr_fX11_order {N : Nat} {I0 : Nat → Int32} {M0 : Nat → Nat → Int32} {x1 : Int32} {x2 : Int32} {x3 : Int32} {R} (h : fX11_order N I0 M0 x1 x2 x3 = some (.inr R)) : Eqo gwI_X11_order R.2.1 I0 ∧ Eqo gwM_X11_order R.2.2 M0 := by
  unfold fX11_order at h
  obtain ⟨r8, -, h⟩ := wb_b h
  rcases fr_i h with h | h
  · have a1 := gr_fX11_order_J27 h
    exact ⟨a1.1.tr (by decide) (Eqo.refl gwI_X11_order I0), a1.2.tr (by decide) (Eqo.refl gwM_X11_order M0)⟩
  · obtain ⟨r9b, -, h⟩ := wb_b h
    rcases fr_i h with h | h
    · have a2 := gr_fX11_order_J27 h
      exact ⟨a2.1.tr (by decide) (Eqo.refl gwI_X11_order I0), a2.2.tr (by decide) (Eqo.refl gwM_X11_order M0)⟩
    · obtain ⟨r10, -, h⟩ := wb_b h
      rcases fr_i h with h | h
      · have a3 := gr_fX11_order_J27 h
        exact ⟨a3.1.tr (by decide) (Eqo.refl gwI_X11_order I0), a3.2.tr (by decide) (Eqo.refl gwM_X11_order M0)⟩
      · have a4 := gr_fX11_order_J28 h
        exact ⟨a4.1.tr (by decide) (Eqo.refl gwI_X11_order I0), a4.2.tr (by decide) (Eqo.refl gwM_X11_order M0)⟩
noncomputable abbrev gwI_X11_life : List Nat := []
noncomputable abbrev gwM_X11_life : List Nat := [28, 29]
theorem gr_fX11_life {N : Nat} {I0 : Nat → Int32} {M0 : Nat → Nat → Int32} {x1 : Int32} {x2 : Int32} {x3 : Int32} {R} (h : fX11_life N I0 M0 x1 x2 x3 = some (.inr R)) : Eqo gwI_X11_life R.2.1 I0 ∧ Eqo gwM_X11_life R.2.2 M0 := by
  unfold fX11_life at h
  obtain ⟨r1, -, h⟩ := wb_b h
  obtain ⟨r2, -, h⟩ := wb_xr h
  have h := wb_okr h
  obtain ⟨r3, -, h⟩ := wb_b h
  rcases fr_i h with h | h
  · have h := Option.some.inj h
    subst h
    exact ⟨(Eqo.refl gwI_X11_life I0), (Eqo.refl gwM_X11_life M0)⟩
  · obtain ⟨r4, -, h⟩ := wb_b h
    rcases fr_i h with h | h
    · have h := Option.some.inj h
      subst h
      exact ⟨(Eqo.refl gwI_X11_life I0), (Eqo.refl gwM_X11_life M0)⟩
    · obtain ⟨r5, e_r5, h⟩ := wb_b h
      have sf_r5 := gr_fX7_tellLife e_r5
      obtain ⟨I0_6, e_I0_6, h⟩ := wb_v h
      have f_I0_6 := Eqo.eq e_I0_6 (Eqo.ip sf_r5.1 (by decide) (Eqo.refl gwI_X11_life I0))
      obtain ⟨M0_7, e_M0_7, h⟩ := wb_v h
      have f_M0_7 := Eqo.eq e_M0_7 (Eqo.ip sf_r5.2 (by decide) (Eqo.refl gwM_X11_life M0))
      have h := Option.some.inj h
      subst h
      exact ⟨f_I0_6, f_M0_7⟩
noncomputable abbrev gwI_X11_fate : List Nat := []
noncomputable abbrev gwM_X11_fate : List Nat := [30]
theorem gr_fX11_fate {N : Nat} {I0 : Nat → Int32} {M0 : Nat → Nat → Int32} {x1 : Int32} {x2 : Int32} {R} (h : fX11_fate N I0 M0 x1 x2 = some (.inr R)) : Eqo gwI_X11_fate R.2.1 I0 ∧ Eqo gwM_X11_fate R.2.2 M0 := by
  unfold fX11_fate at h
  obtain ⟨r1, -, h⟩ := wb_b h
  obtain ⟨r2, -, h⟩ := wb_xr h
  have h := wb_okr h
  obtain ⟨r3, -, h⟩ := wb_b h
  rcases fr_i h with h | h
  · have h := Option.some.inj h
    subst h
    exact ⟨(Eqo.refl gwI_X11_fate I0), (Eqo.refl gwM_X11_fate M0)⟩
  · obtain ⟨r4, e_r4, h⟩ := wb_b h
    have sf_r4 := gr_fX7_tellFate e_r4
    obtain ⟨I0_5, e_I0_5, h⟩ := wb_v h
    have f_I0_5 := Eqo.eq e_I0_5 (Eqo.ip sf_r4.1 (by decide) (Eqo.refl gwI_X11_fate I0))
    obtain ⟨M0_6, e_M0_6, h⟩ := wb_v h
    have f_M0_6 := Eqo.eq e_M0_6 (Eqo.ip sf_r4.2 (by decide) (Eqo.refl gwM_X11_fate M0))
    have h := Option.some.inj h
    subst h
    exact ⟨f_I0_5, f_M0_6⟩
noncomputable abbrev gwI_X11_fates : List Nat := []
noncomputable abbrev gwM_X11_fates : List Nat := [31, 32, 33]
theorem gr_fX11_fates {N : Nat} {I0 : Nat → Int32} {M0 : Nat → Nat → Int32} {x1 : Int32} {R} (h : fX11_fates N I0 M0 x1 = some (.inr R)) : Eqo gwI_X11_fates R.2.1 I0 ∧ Eqo gwM_X11_fates R.2.2 M0 := by
  unfold fX11_fates at h
  obtain ⟨r1, -, h⟩ := wb_b h
  obtain ⟨r2, -, h⟩ := wb_xr h
  have h := wb_okr h
  rcases fr_i h with h | h
  · obtain ⟨r6, e_r6, h⟩ := wb_b h
    have sf_r6 := gr_fX7_howManyToldByLot e_r6
    obtain ⟨I0_7, e_I0_7, h⟩ := wb_v h
    have f_I0_7 := Eqo.eq e_I0_7 (Eqo.ip sf_r6.1 (by decide) (Eqo.refl gwI_X11_fates I0))
    obtain ⟨M0_8, e_M0_8, h⟩ := wb_v h
    have f_M0_8 := Eqo.eq e_M0_8 (Eqo.ip sf_r6.2 (by decide) (Eqo.refl gwM_X11_fates M0))
    have h := Option.some.inj h
    subst h
    exact ⟨f_I0_7, f_M0_8⟩
  · obtain ⟨r3, e_r3, h⟩ := wb_b h
    have sf_r3 := gr_fX7_chanceOfFates e_r3
    obtain ⟨I0_4, e_I0_4, h⟩ := wb_v h
    have f_I0_4 := Eqo.eq e_I0_4 (Eqo.ip sf_r3.1 (by decide) (Eqo.refl gwI_X11_fates I0))
    obtain ⟨M0_5, e_M0_5, h⟩ := wb_v h
    have f_M0_5 := Eqo.eq e_M0_5 (Eqo.ip sf_r3.2 (by decide) (Eqo.refl gwM_X11_fates M0))
    have h := Option.some.inj h
    subst h
    exact ⟨f_I0_4, f_M0_5⟩
noncomputable abbrev gwI_X11_hits : List Nat := []
noncomputable abbrev gwM_X11_hits : List Nat := [31, 32, 33]
theorem gr_fX11_hits_J24 {N : Nat} {x1 : Int32} {x2 : Int32} {I0_j24 : Nat → Int32} {M0_j24 : Nat → Nat → Int32} {z24_0 : Int32} {R} (h : fX11_hits_J24 N x1 x2 I0_j24 M0_j24 z24_0 = some (.inr R)) : Eqo gwI_X11_hits R.2.1 I0_j24 ∧ Eqo gwM_X11_hits R.2.2 M0_j24 := by
  unfold fX11_hits_J24 at h
  obtain ⟨r1, -, h⟩ := wb_xr h
  have h := wb_okr h
  rcases fr_i h with h | h
  · obtain ⟨r5, e_r5, h⟩ := wb_b h
    have sf_r5 := gr_fX7_howManyHits e_r5
    obtain ⟨I0_6, e_I0_6, h⟩ := wb_v h
    have f_I0_6 := Eqo.eq e_I0_6 (Eqo.ip sf_r5.1 (by decide) (Eqo.refl gwI_X11_hits I0_j24))
    obtain ⟨M0_7, e_M0_7, h⟩ := wb_v h
    have f_M0_7 := Eqo.eq e_M0_7 (Eqo.ip sf_r5.2 (by decide) (Eqo.refl gwM_X11_hits M0_j24))
    have h := Option.some.inj h
    subst h
    exact ⟨f_I0_6, f_M0_7⟩
  · obtain ⟨r2, e_r2, h⟩ := wb_b h
    have sf_r2 := gr_fX7_chanceOfLives e_r2
    obtain ⟨I0_3, e_I0_3, h⟩ := wb_v h
    have f_I0_3 := Eqo.eq e_I0_3 (Eqo.ip sf_r2.1 (by decide) (Eqo.refl gwI_X11_hits I0_j24))
    obtain ⟨M0_4, e_M0_4, h⟩ := wb_v h
    have f_M0_4 := Eqo.eq e_M0_4 (Eqo.ip sf_r2.2 (by decide) (Eqo.refl gwM_X11_hits M0_j24))
    have h := Option.some.inj h
    subst h
    exact ⟨f_I0_3, f_M0_4⟩
theorem gr_fX11_hits_J23 {N : Nat} {x1 : Int32} {x2 : Int32} {I0_j23 : Nat → Int32} {M0_j23 : Nat → Nat → Int32} {R} (h : fX11_hits_J23 N x1 x2 I0_j23 M0_j23 = some (.inr R)) : Eqo gwI_X11_hits R.2.1 I0_j23 ∧ Eqo gwM_X11_hits R.2.2 M0_j23 := by
  unfold fX11_hits_J23 at h
  have a1 := gr_fX11_hits_J24 h
  exact ⟨a1.1.tr (by decide) (Eqo.refl gwI_X11_hits I0_j23), a1.2.tr (by decide) (Eqo.refl gwM_X11_hits M0_j23)⟩
theorem gr_fX11_hits {N : Nat} {I0 : Nat → Int32} {M0 : Nat → Nat → Int32} {x1 : Int32} {x2 : Int32} {R} (h : fX11_hits N I0 M0 x1 x2 = some (.inr R)) : Eqo gwI_X11_hits R.2.1 I0 ∧ Eqo gwM_X11_hits R.2.2 M0 := by
  unfold fX11_hits at h
  obtain ⟨r8, -, h⟩ := wb_b h
  rcases fr_i h with h | h
  · have a1 := gr_fX11_hits_J23 h
    exact ⟨a1.1.tr (by decide) (Eqo.refl gwI_X11_hits I0), a1.2.tr (by decide) (Eqo.refl gwM_X11_hits M0)⟩
  · obtain ⟨r9b, -, h⟩ := wb_b h
    rcases fr_i h with h | h
    · have a2 := gr_fX11_hits_J23 h
      exact ⟨a2.1.tr (by decide) (Eqo.refl gwI_X11_hits I0), a2.2.tr (by decide) (Eqo.refl gwM_X11_hits M0)⟩
    · have a3 := gr_fX11_hits_J24 h
      exact ⟨a3.1.tr (by decide) (Eqo.refl gwI_X11_hits I0), a3.2.tr (by decide) (Eqo.refl gwM_X11_hits M0)⟩
noncomputable abbrev gwI_L_count : List Nat := []
noncomputable abbrev gwM_L_count : List Nat := [31]
theorem gr_fL_count {N : Nat} {I0 : Nat → Int32} {M0 : Nat → Nat → Int32} {x1 : Int32} {o2 : Nat → Int64} {R} (h : fL_count N I0 M0 x1 o2 = some R) : Eqo gwI_L_count R.2.1 I0 ∧ Eqo gwM_L_count R.2.2.1 M0 := by
  unfold fL_count at h
  rcases fr_hp h with ⟨k, -, h⟩ | ⟨r, e_r, h⟩
  · rcases fr_i h with h | h
    · have h := Option.some.inj h
      subst h
      exact ⟨(Eqo.refl gwI_L_count I0), (Eqo.refl gwM_L_count M0)⟩
    · cases h
  · have a1 := gr_fX11_count e_r
    have fI_r := a1.1.tr (W := gwI_L_count) (by decide) (Eqo.refl gwI_L_count I0)
    have fM_r := a1.2.tr (W := gwM_L_count) (by decide) (Eqo.refl gwM_L_count M0)
    obtain ⟨o2_1, -, h⟩ := wb_v h
    have h := Option.some.inj h
    subst h
    exact ⟨fI_r, fM_r⟩
noncomputable abbrev gwI_L_leaf : List Nat := []
noncomputable abbrev gwM_L_leaf : List Nat := [23, 24]
theorem gr_fL_leaf {N : Nat} {I0 : Nat → Int32} {M0 : Nat → Nat → Int32} {x1 : Int32} {x2 : Int32} {o3 : Nat → Int64} {R} (h : fL_leaf N I0 M0 x1 x2 o3 = some R) : Eqo gwI_L_leaf R.2.1 I0 ∧ Eqo gwM_L_leaf R.2.2.1 M0 := by
  unfold fL_leaf at h
  rcases fr_hp h with ⟨k, -, h⟩ | ⟨r, e_r, h⟩
  · rcases fr_i h with h | h
    · have h := Option.some.inj h
      subst h
      exact ⟨(Eqo.refl gwI_L_leaf I0), (Eqo.refl gwM_L_leaf M0)⟩
    · cases h
  · have a1 := gr_fX11_leaf e_r
    have fI_r := a1.1.tr (W := gwI_L_leaf) (by decide) (Eqo.refl gwI_L_leaf I0)
    have fM_r := a1.2.tr (W := gwM_L_leaf) (by decide) (Eqo.refl gwM_L_leaf M0)
    obtain ⟨o3_1, -, h⟩ := wb_v h
    have h := Option.some.inj h
    subst h
    exact ⟨fI_r, fM_r⟩
noncomputable abbrev gwI_L_order : List Nat := []
noncomputable abbrev gwM_L_order : List Nat := [25, 26]
theorem gr_fL_order {N : Nat} {I0 : Nat → Int32} {M0 : Nat → Nat → Int32} {x1 : Int32} {x2 : Int32} {x3 : Int32} {o4 : Nat → Int64} {R} (h : fL_order N I0 M0 x1 x2 x3 o4 = some R) : Eqo gwI_L_order R.2.1 I0 ∧ Eqo gwM_L_order R.2.2.1 M0 := by
  unfold fL_order at h
  rcases fr_hp h with ⟨k, -, h⟩ | ⟨r, e_r, h⟩
  · rcases fr_i h with h | h
    · have h := Option.some.inj h
      subst h
      exact ⟨(Eqo.refl gwI_L_order I0), (Eqo.refl gwM_L_order M0)⟩
    · cases h
  · have a1 := gr_fX11_order e_r
    have fI_r := a1.1.tr (W := gwI_L_order) (by decide) (Eqo.refl gwI_L_order I0)
    have fM_r := a1.2.tr (W := gwM_L_order) (by decide) (Eqo.refl gwM_L_order M0)
    obtain ⟨o4_1, -, h⟩ := wb_v h
    have h := Option.some.inj h
    subst h
    exact ⟨fI_r, fM_r⟩
noncomputable abbrev gwI_L_life : List Nat := []
noncomputable abbrev gwM_L_life : List Nat := [28, 29]
theorem gr_fL_life {N : Nat} {I0 : Nat → Int32} {M0 : Nat → Nat → Int32} {x1 : Int32} {x2 : Int32} {x3 : Int32} {o4 : Nat → Int64} {R} (h : fL_life N I0 M0 x1 x2 x3 o4 = some R) : Eqo gwI_L_life R.2.1 I0 ∧ Eqo gwM_L_life R.2.2.1 M0 := by
  unfold fL_life at h
  rcases fr_hp h with ⟨k, -, h⟩ | ⟨r, e_r, h⟩
  · rcases fr_i h with h | h
    · have h := Option.some.inj h
      subst h
      exact ⟨(Eqo.refl gwI_L_life I0), (Eqo.refl gwM_L_life M0)⟩
    · cases h
  · have a1 := gr_fX11_life e_r
    have fI_r := a1.1.tr (W := gwI_L_life) (by decide) (Eqo.refl gwI_L_life I0)
    have fM_r := a1.2.tr (W := gwM_L_life) (by decide) (Eqo.refl gwM_L_life M0)
    rcases fr_i h with h | h
    · obtain ⟨o4_1, -, h⟩ := wb_v h
      have h := Option.some.inj h
      subst h
      exact ⟨fI_r, fM_r⟩
    · obtain ⟨o4_2, -, h⟩ := wb_v h
      have h := Option.some.inj h
      subst h
      exact ⟨fI_r, fM_r⟩
noncomputable abbrev gwI_L_fate : List Nat := []
noncomputable abbrev gwM_L_fate : List Nat := [30]
theorem gr_fL_fate {N : Nat} {I0 : Nat → Int32} {M0 : Nat → Nat → Int32} {x1 : Int32} {x2 : Int32} {o3 : Nat → Int64} {R} (h : fL_fate N I0 M0 x1 x2 o3 = some R) : Eqo gwI_L_fate R.2.1 I0 ∧ Eqo gwM_L_fate R.2.2.1 M0 := by
  unfold fL_fate at h
  rcases fr_hp h with ⟨k, -, h⟩ | ⟨r, e_r, h⟩
  · rcases fr_i h with h | h
    · have h := Option.some.inj h
      subst h
      exact ⟨(Eqo.refl gwI_L_fate I0), (Eqo.refl gwM_L_fate M0)⟩
    · cases h
  · have a1 := gr_fX11_fate e_r
    have fI_r := a1.1.tr (W := gwI_L_fate) (by decide) (Eqo.refl gwI_L_fate I0)
    have fM_r := a1.2.tr (W := gwM_L_fate) (by decide) (Eqo.refl gwM_L_fate M0)
    rcases fr_i h with h | h
    · obtain ⟨o3_1, -, h⟩ := wb_v h
      have h := Option.some.inj h
      subst h
      exact ⟨fI_r, fM_r⟩
    · obtain ⟨o3_2, -, h⟩ := wb_v h
      have h := Option.some.inj h
      subst h
      exact ⟨fI_r, fM_r⟩
noncomputable abbrev gwI_L_fates : List Nat := []
noncomputable abbrev gwM_L_fates : List Nat := [31, 32, 33]
theorem gr_fL_fates {N : Nat} {I0 : Nat → Int32} {M0 : Nat → Nat → Int32} {x1 : Int32} {o2 : Nat → Int64} {R} (h : fL_fates N I0 M0 x1 o2 = some R) : Eqo gwI_L_fates R.2.1 I0 ∧ Eqo gwM_L_fates R.2.2.1 M0 := by
  unfold fL_fates at h
  rcases fr_hp h with ⟨k, -, h⟩ | ⟨r, e_r, h⟩
  · rcases fr_i h with h | h
    · have h := Option.some.inj h
      subst h
      exact ⟨(Eqo.refl gwI_L_fates I0), (Eqo.refl gwM_L_fates M0)⟩
    · cases h
  · have a1 := gr_fX11_fates e_r
    have fI_r := a1.1.tr (W := gwI_L_fates) (by decide) (Eqo.refl gwI_L_fates I0)
    have fM_r := a1.2.tr (W := gwM_L_fates) (by decide) (Eqo.refl gwM_L_fates M0)
    obtain ⟨o2_1, -, h⟩ := wb_v h
    have h := Option.some.inj h
    subst h
    exact ⟨fI_r, fM_r⟩
noncomputable abbrev gwI_L_hits : List Nat := []
noncomputable abbrev gwM_L_hits : List Nat := [31, 32, 33]
theorem gr_fL_hits {N : Nat} {I0 : Nat → Int32} {M0 : Nat → Nat → Int32} {x1 : Int32} {x2 : Int32} {o3 : Nat → Int64} {R} (h : fL_hits N I0 M0 x1 x2 o3 = some R) : Eqo gwI_L_hits R.2.1 I0 ∧ Eqo gwM_L_hits R.2.2.1 M0 := by
  unfold fL_hits at h
  rcases fr_hp h with ⟨k, -, h⟩ | ⟨r, e_r, h⟩
  · rcases fr_i h with h | h
    · have h := Option.some.inj h
      subst h
      exact ⟨(Eqo.refl gwI_L_hits I0), (Eqo.refl gwM_L_hits M0)⟩
    · cases h
  · have a1 := gr_fX11_hits e_r
    have fI_r := a1.1.tr (W := gwI_L_hits) (by decide) (Eqo.refl gwI_L_hits I0)
    have fM_r := a1.2.tr (W := gwM_L_hits) (by decide) (Eqo.refl gwM_L_hits M0)
    obtain ⟨o3_1, -, h⟩ := wb_v h
    have h := Option.some.inj h
    subst h
    exact ⟨fI_r, fM_r⟩
theorem an_leaf {N : Nat} (hN : 3000000000 ≤ N) {I0 I1 : Nat → Int32} {M0 M1 : Nat → Nat → Int32} {L1 : Int64} {x1 x2 : Int32} {o : Nat → Int64} {r : Int32 × (Nat → Int32) × (Nat → Nat → Int32) × (Nat → Int64)} {s : Int32 × (Nat → Int32) × Int64 × (Nat → Nat → Int32)} (k0 : KX11 I0 M0) (k1 : KX12 I1 M1) (e1 : fL_leaf N I0 M0 x1 x2 o = some r) (e3 : fX12_leaf N I1 L1 M1 x1 x2 = some s) (hr : RR I0 M0 I1 M1) (hx : QL I0 M0 I1 M1) : (s.2.1 0 = r.1 ∧ (r.1 = 0 → r.2.2.2 0 = s.1.toInt64)) ∧ QL r.2.1 r.2.2.1 s.2.1 s.2.2.2 := by
  unfold fL_leaf at e1
  have hr0 := hr.j0 0
  have u1 : (upd I1 0 0 1).toInt = (I1 1).toInt := rfl
  have ht := hr.2.2
  have er := hr.2.1
  have h91 := congrArg Int32.toInt ht.1
  have u2 : (((1 : Int32), upd I1 0 0, L1, M1).snd.fst 1).toInt = (I1 1).toInt := rfl
  have i9 := k0.i9
  have key : ∀ q, fX11_leaf N I0 M0 x1 x2 = some q → (q = .inl 1 ∧ s.2.1 0 = 1 ∧ QL I0 M0 s.2.1 s.2.2.2) ∨ ∃ a, q = .inr a ∧ s.2.1 0 = 0 ∧ a.1 = s.1 ∧ QL a.2.1 a.2.2 s.2.1 s.2.2.2 := by
    intro q h
    unfold fX11_leaf at h
    obtain ⟨r1, e2, h⟩ := wb_b h
    rcases ck_isBook e2 with ⟨q3, c4⟩ | ⟨q3, c4⟩
    · have h := wb_f (by rw [q3]; decide) h
      obtain ⟨r5, e6, h⟩ := wb_b h
      rcases ck_within (0) (19) (by decide) (by decide) e6 with ⟨q7, c8⟩ | ⟨q7, c8⟩
      · have h := wb_f (by rw [q7]; decide) h
        rcases nd11 h with ⟨c9, h⟩ | ⟨c9, h⟩
        · exact absurd c9 (show ¬ (1 : Int32) = 0 by decide)
        · obtain ⟨a, ha, h⟩ := oki h
          have g := e3
          unfold fX12_leaf at g
          obtain ⟨r10, e11, g⟩ := wb_b g
          rcases iw12 e11 with ⟨c13, q12⟩ | ⟨c13, q12⟩
          · subst q12
            unfold BW at c13
            have g := wb_f (c := (1 : Int32) = 0) (by decide) g
            obtain ⟨r8, f8, h⟩ := wb_b h
            obtain ⟨I9, e9, h⟩ := wb_v h
            obtain ⟨M10, e10, h⟩ := wb_v h
            have h := Option.some.inj h
            obtain ⟨b2, g2, g⟩ := wb_b g
            unfold fX6_addTo at f8
            obtain ⟨p, fp, f8⟩ := wb_b f8
            have cb : x1.toNatClampNeg < 6 := by rw [cl32]; omega
            have ep : p = b2 := lf_eq (I0 := I0) (J := upd I1 0 0) hx cb (by omega) fp g2
            rw [← ep] at g g2
            have m24 : M0 24 x1.toNatClampNeg = M1 27 x1.toNatClampNeg := (hx _ cb).1
            have m27 := k1.m27 x1.toNatClampNeg
            rcases ifr f8 with ⟨c9, f8⟩ | ⟨c9, f8⟩
            · have g := wb_t c9 g
              have lv : ∀ i : Nat, (i : Int) < (M1 27 x1.toNatClampNeg).toInt → M1 28 (20 * x1.toNatClampNeg + i) ≠ x2 := by
                obtain ⟨w, ew, hw⟩ := tu_leafAt_L2 (upd I1 0 0) L1 M1 x1 x2 (by omega) (show KX12 (upd I1 0 0) M1 from k1.si0) N 0 ⟨by decide, by decide⟩ (fun i hi => by rw [ni0] at hi; omega) (by rw [ni0]; omega)
                unfold fX12_leafAt at g2
                have ew2 := Option.some.inj (ew.symm.trans g2)
                exact hw (by rw [ew2, c9, nim1])
              have h19 := lv_room9 k1.elv (b := x1.toNatClampNeg) (by omega) (by omega) lv
              obtain ⟨-, f8⟩ := wb_n f8
              have f8 := wb_t (c := M0 24 x1.toNatClampNeg < 20) (by rw [m24]; exact (lt32 rfl ni20).mpr (by omega)) f8
              obtain ⟨-, f8⟩ := wb_n f8
              obtain ⟨-, f8⟩ := wb_n f8
              obtain ⟨ma, ea, f8⟩ := wb_v f8
              obtain ⟨-, f8⟩ := wb_n f8
              obtain ⟨-, f8⟩ := wb_n f8
              obtain ⟨mb, eb, f8⟩ := wb_v f8
              obtain ⟨-, f8⟩ := wb_n f8
              have f8 := Option.some.inj f8
              obtain ⟨-, g⟩ := wb_n g
              obtain ⟨-, g⟩ := wb_n g
              obtain ⟨ka, eka, g⟩ := wb_v g
              obtain ⟨-, g⟩ := wb_n g
              obtain ⟨-, g⟩ := wb_n g
              obtain ⟨kb, ekb, g⟩ := wb_v g
              obtain ⟨-, g⟩ := wb_n g
              have g := Option.some.inj g
              subst g
              have fa : wb_sh M0 23 1 x1.toNatClampNeg = M1 27 x1.toNatClampNeg := m24
              have va : mb 1 x1.toNatClampNeg = M1 27 x1.toNatClampNeg + 1 := by
                rw [eb, ea]
                show upd (wb_sh M0 23 1) x1.toNatClampNeg (wb_sh M0 23 1 x1.toNatClampNeg + 1) x1.toNatClampNeg = _
                unfold upd
                rw [if_pos rfl, fa]
              have vb : kb 27 x1.toNatClampNeg = M1 27 x1.toNatClampNeg + 1 := by
                rw [ekb, eka]
                show upd (M1 27) x1.toNatClampNeg (M1 27 x1.toNatClampNeg + 1) x1.toNatClampNeg = _
                unfold upd
                rw [if_pos rfl]
              rw [← h] at ha
              refine Or.inr ⟨_, ha, rfl, ?_, fun b hb => ?_⟩
              · show r8.1 = kb 27 x1.toNatClampNeg
                rw [← f8, vb]
                exact va
              · have i23 : M10 23 = mb 0 := by
                  rw [e10, wbi_in (by omega) (by omega), ← f8]
                have i24 : M10 24 = mb 1 := by
                  rw [e10, wbi_in (by omega) (by omega), ← f8]
                show M10 24 b = kb 27 b ∧ ∀ i : Nat, (i : Int) < (kb 27 b).toInt → M10 23 (20 * b + i) = kb 28 (20 * b + i)
                rw [i23, i24]
                have t20 : (20 : Int32).toInt = 20 := by decide
                have m1 := ia_mul 20 20 t20 x1 (by omega) (by omega)
                have s1 := ia_add ((20 : Int32) * x1) (M1 27 x1.toNatClampNeg) (by omega) (by omega)
                have ix : ((20 : Int32) * x1 + M1 27 x1.toNatClampNeg).toNatClampNeg = 20 * x1.toNatClampNeg + (M1 27 x1.toNatClampNeg).toInt.toNat := by
                  have cx : x1.toNatClampNeg = x1.toInt.toNat := cl32 _
                  rw [cl32, s1, m1]
                  omega
                have w23 : ∀ j, mb 0 j = if j = 20 * x1.toNatClampNeg + (M1 27 x1.toNatClampNeg).toInt.toNat then x2 else M0 23 j := by
                  intro j
                  rw [eb, ea]
                  show upd (wb_sh M0 23 0) ((20 : Int32) * x1 + wb_sh M0 23 1 x1.toNatClampNeg).toNatClampNeg x2 j = _
                  rw [fa, ix]
                  rfl
                have w28 : ∀ j, kb 28 j = if j = 20 * x1.toNatClampNeg + (M1 27 x1.toNatClampNeg).toInt.toNat then x2 else M1 28 j := by
                  intro j
                  rw [ekb, eka]
                  show upd (M1 28) ((20 : Int32) * x1 + M1 27 x1.toNatClampNeg).toNatClampNeg x2 j = _
                  rw [ix]
                  rfl
                have tp : (M1 27 x1.toNatClampNeg + 1).toInt = (M1 27 x1.toNatClampNeg).toInt + 1 := p1i (by omega)
                by_cases hbb : b = x1.toNatClampNeg
                · rw [hbb, va, vb]
                  refine ⟨rfl, fun i hi => ?_⟩
                  rw [w23, w28]
                  by_cases hj : 20 * x1.toNatClampNeg + i = 20 * x1.toNatClampNeg + (M1 27 x1.toNatClampNeg).toInt.toNat
                  · rw [if_pos hj, if_pos hj]
                  · rw [if_neg hj, if_neg hj]
                    exact (hx _ cb).2 i (by omega)
                · have o24 : mb 1 b = M0 24 b := by
                    rw [eb, ea]
                    show upd (wb_sh M0 23 1) x1.toNatClampNeg _ b = _
                    unfold upd
                    rw [if_neg hbb]
                    rfl
                  have o27 : kb 27 b = M1 27 b := by
                    rw [ekb, eka]
                    show upd (M1 27) x1.toNatClampNeg _ b = _
                    unfold upd
                    rw [if_neg hbb]
                  rw [o24, o27]
                  refine ⟨(hx b hb).1, fun i hi => ?_⟩
                  have mbb := k1.m27 b
                  rw [w23, w28, if_neg (by omega), if_neg (by omega)]
                  exact (hx b hb).2 i hi
            · have g := Option.some.inj (wb_f c9 g)
              have f8 := Option.some.inj f8
              subst g
              rw [← h] at ha
              refine Or.inr ⟨_, ha, rfl, ?_, ?_⟩
              · show r8.1 = -1
                rw [← f8]
              · refine hx.cg ?_ ?_ rfl rfl
                · show M10 23 = M0 23
                  rw [e10, wbi_in (by omega) (by omega), ← f8]
                  rfl
                · show M10 24 = M0 24
                  rw [e10, wbi_in (by omega) (by omega), ← f8]
                  rfl
          · subst q12
            unfold BW at c13
            have g := wb_t (c := (0 : Int32) = 0) rfl g
            have g := Option.some.inj g
            subst g
            exfalso
            omega
      · have h := wb_t q7 h
        unfold fX11_leaf_J21 at h
        rcases nd11 h with ⟨c14, h⟩ | ⟨c14, h⟩
        · have g := e3
          unfold fX12_leaf at g
          obtain ⟨r15, e16, g⟩ := wb_b g
          rcases iw12 e16 with ⟨c18, q17⟩ | ⟨c18, q17⟩
          · subst q17
            unfold BW at c18
            have g := wb_f (c := (1 : Int32) = 0) (by decide) g
            exfalso
            omega
          · subst q17
            unfold BW at c18
            have g := wb_t (c := (0 : Int32) = 0) rfl g
            have g := Option.some.inj g
            subst g
            exact Or.inl ⟨h, rfl, hx⟩
        · exact absurd rfl c14
    · have h := wb_t q3 h
      unfold fX11_leaf_J21 at h
      rcases nd11 h with ⟨c19, h⟩ | ⟨c19, h⟩
      · have g := e3
        unfold fX12_leaf at g
        obtain ⟨r20, e21, g⟩ := wb_b g
        rcases iw12 e21 with ⟨c23, q22⟩ | ⟨c23, q22⟩
        · subst q22
          unfold BW at c23
          have g := wb_f (c := (1 : Int32) = 0) (by decide) g
          exfalso
          omega
        · subst q22
          unfold BW at c23
          have g := wb_t (c := (0 : Int32) = 0) rfl g
          have g := Option.some.inj g
          subst g
          exact Or.inl ⟨h, rfl, hx⟩
      · exact absurd rfl c19
  exact fin_1sx (P := fun I M => QL I M s.2.1 s.2.2.2) e1 key
/-- class and reference side by side -/
def RQ (I0 : Nat → Int32) (M0 : Nat → Nat → Int32) (I1 : Nat → Int32) (M1 : Nat → Nat → Int32) : Prop := RR I0 M0 I1 M1 ∧ QL I0 M0 I1 M1 ∧ True
theorem RQ_fresh : RQ fx_I fx_M fm_I fm_M := ⟨RR_fresh, QL_fresh, trivial⟩
theorem rq_feed {N : Nat} (hN : 3000000000 ≤ N) {I0 : Nat → Int32} {M0 : Nat → Nat → Int32} {I1 : Nat → Int32} {L1 : Int64} {M1 : Nat → Nat → Int32} {x1 : Int32} {x2 : Int32} {x3 : Int32} {x4 : Int32} {x5 : Int32} {r1} {r2} (e1 : fX11_feed N I0 M0 x1 x2 x3 x4 x5 = some r1) (e3 : fX12_feed N I1 L1 M1 x1 x2 x3 x4 x5 = some r2) (k0 : KX11 I0 M0) (k1 : KX12 I1 M1) (hr : RQ I0 M0 I1 M1) : RQ r1.2.1 r1.2.2 r2.2.1 r2.2.2.2 := by
  have f3 := fr_fX12_feed e3
  have f1 := fr_fX11_feed e1
  exact ⟨⟨hd_T_feed e1 e3 hr.1, hr.1.2.1.cg (f1.2 13 (by decide)) (f3.2 7 (by decide)), hr.1.2.2.cg (f1.1 9 (by decide)) (f1.1 10 (by decide)) (fun k h1 h2 => f1.2 k ((by decide : ∀ k, k < 7 → 1 ≤ k → ¬ k ∈ fwM_X11_feed) k h1 h2)) (f3.1 1 (by decide)) (f3.1 2 (by decide)) (fun k h1 => f3.2 k ((by decide : ∀ k, k < 7 → ¬ k ∈ fwM_X12_feed) k h1))⟩, (hr.2.1).cg (f1.2 23 (by decide)) (f1.2 24 (by decide)) (f3.2 27 (by decide)) (f3.2 28 (by decide)), trivial⟩
theorem rq_house {N : Nat} (hN : 3000000000 ≤ N) {I0 : Nat → Int32} {M0 : Nat → Nat → Int32} {I1 : Nat → Int32} {L1 : Int64} {M1 : Nat → Nat → Int32} {x1 : Int32} {o2 : Nat → Int64} {r1} {r3} (e1 : fL_house N I0 M0 x1 o2 = some r1) (e3 : fX12_house N I1 L1 M1 x1 = some r3) (k0 : KX11 I0 M0) (k1 : KX12 I1 M1) (hr : RQ I0 M0 I1 M1) : RQ r1.2.1 r1.2.2.1 r3.2.1 r3.2.2.2 := by
  have f3 := fr_fX12_house e3
  have f1 := fr_fL_house e1
  exact ⟨⟨(hs_house e1 e3 hr.1).1, hr.1.2.1.cg (f1.2 13 (by decide)) (f3.2 7 (by decide)), (hs_house e1 e3 hr.1).2⟩, (hr.2.1).cg (f1.2 23 (by decide)) (f1.2 24 (by decide)) (f3.2 27 (by decide)) (f3.2 28 (by decide)), trivial⟩
theorem rq_wheel {N : Nat} (hN : 3000000000 ≤ N) {I0 : Nat → Int32} {M0 : Nat → Nat → Int32} {I1 : Nat → Int32} {L1 : Int64} {M1 : Nat → Nat → Int32} {x1 : Int32} {x2 : Int32} {x3 : Int32} {o4 : Nat → Int64} {r1} {r3} (e1 : fL_wheel N I0 M0 x1 x2 x3 o4 = some r1) (e3 : fX12_wheel N I1 L1 M1 x1 x2 x3 = some r3) (k0 : KX11 I0 M0) (k1 : KX12 I1 M1) (hr : RQ I0 M0 I1 M1) : RQ r1.2.1 r1.2.2.1 r3.2.1 r3.2.2.2 := by
  have f3 := fr_fX12_wheel e3
  have f1 := fr_fL_wheel e1
  exact ⟨⟨(hs_wheel hN e1 e3 hr.1).1, (hs_wheel hN e1 e3 hr.1).2.1, hr.1.2.2.cg (f1.1 9 (by decide)) (f1.1 10 (by decide)) (fun k h1 h2 => f1.2 k ((by decide : ∀ k, k < 7 → 1 ≤ k → ¬ k ∈ fwM_L_wheel) k h1 h2)) (f3.1 1 (by decide)) (f3.1 2 (by decide)) (fun k h1 => f3.2 k ((by decide : ∀ k, k < 7 → ¬ k ∈ fwM_X12_wheel) k h1))⟩, (hr.2.1).cg (f1.2 23 (by decide)) (f1.2 24 (by decide)) (f3.2 27 (by decide)) (f3.2 28 (by decide)), trivial⟩
theorem rq_fault {N : Nat} (hN : 3000000000 ≤ N) {I0 : Nat → Int32} {M0 : Nat → Nat → Int32} {I1 : Nat → Int32} {L1 : Int64} {M1 : Nat → Nat → Int32} {r1} {r2} (e1 : fX11_fault N I0 M0  = some r1) (e3 : fX12_fault N I1 L1 M1  = some r2) (k0 : KX11 I0 M0) (k1 : KX12 I1 M1) (hr : RQ I0 M0 I1 M1) : RQ I0 M0 r2.2.1 r2.2.2.2 := by
  have f3 := fr_fX12_fault e3
  exact ⟨⟨hr.1.1.cg rfl (f3.1 3 (by decide)) rfl (f3.2 8 (by decide)), hr.1.2.1.cg rfl (f3.2 7 (by decide)), hr.1.2.2.cg rfl rfl (fun _ _ _ => rfl) (f3.1 1 (by decide)) (f3.1 2 (by decide)) (fun k h1 => f3.2 k ((by decide : ∀ k, k < 7 → ¬ k ∈ fwM_X12_fault) k h1))⟩, (hr.2.1).cg rfl rfl (f3.2 27 (by decide)) (f3.2 28 (by decide)), trivial⟩
theorem rq_count {N : Nat} (hN : 3000000000 ≤ N) {I0 : Nat → Int32} {M0 : Nat → Nat → Int32} {I1 : Nat → Int32} {L1 : Int64} {M1 : Nat → Nat → Int32} {x1 : Int32} {o2 : Nat → Int64} {r1} {r3} (e1 : fL_count N I0 M0 x1 o2 = some r1) (e3 : fX12_count N I1 L1 M1 x1 = some r3) (k0 : KX11 I0 M0) (k1 : KX12 I1 M1) (hr : RQ I0 M0 I1 M1) : RQ r1.2.1 r1.2.2.1 r3.2.1 r3.2.2.2 := by
  have f3 := fr_fX12_count e3
  have f1 := fr_fL_count e1
  have g1 := gr_fL_count e1
  exact ⟨⟨hr.1.1.cg (f1.1 0 (by decide)) (f3.1 3 (by decide)) (f1.2 0 (by decide)) (f3.2 8 (by decide)), hr.1.2.1.cg (f1.2 13 (by decide)) (f3.2 7 (by decide)), hr.1.2.2.cg (f1.1 9 (by decide)) (f1.1 10 (by decide)) (fun k h1 h2 => f1.2 k ((by decide : ∀ k, k < 7 → 1 ≤ k → ¬ k ∈ fwM_L_count) k h1 h2)) (f3.1 1 (by decide)) (f3.1 2 (by decide)) (fun k h1 => f3.2 k ((by decide : ∀ k, k < 7 → ¬ k ∈ fwM_X12_count) k h1))⟩, (hr.2.1).cg (g1.2 23 (by decide)) (g1.2 24 (by decide)) (f3.2 27 (by decide)) (f3.2 28 (by decide)), trivial⟩
theorem rq_place {N : Nat} (hN : 3000000000 ≤ N) {I0 : Nat → Int32} {M0 : Nat → Nat → Int32} {I1 : Nat → Int32} {L1 : Int64} {M1 : Nat → Nat → Int32} {x1 : Int32} {x2 : Int32} {x3 : Int32} {o4 : Nat → Int64} {r1} {r3} (e1 : fL_place N I0 M0 x1 x2 x3 o4 = some r1) (e3 : fX12_place N I1 L1 M1 x1 x2 x3 = some r3) (k0 : KX11 I0 M0) (k1 : KX12 I1 M1) (hr : RQ I0 M0 I1 M1) : RQ r1.2.1 r1.2.2.1 r3.2.1 r3.2.2.2 := by
  have f3 := fr_fX12_place e3
  have f1 := fr_fL_place e1
  exact ⟨⟨hr.1.1.cg (f1.1 0 (by decide)) (f3.1 3 (by decide)) (f1.2 0 (by decide)) (f3.2 8 (by decide)), hr.1.2.1.cg (f1.2 13 (by decide)) (f3.2 7 (by decide)), hr.1.2.2.cg (f1.1 9 (by decide)) (f1.1 10 (by decide)) (fun k h1 h2 => f1.2 k ((by decide : ∀ k, k < 7 → 1 ≤ k → ¬ k ∈ fwM_L_place) k h1 h2)) (f3.1 1 (by decide)) (f3.1 2 (by decide)) (fun k h1 => f3.2 k ((by decide : ∀ k, k < 7 → ¬ k ∈ fwM_X12_place) k h1))⟩, (hr.2.1).cg (f1.2 23 (by decide)) (f1.2 24 (by decide)) (f3.2 27 (by decide)) (f3.2 28 (by decide)), trivial⟩
theorem rq_entry {N : Nat} (hN : 3000000000 ≤ N) {I0 : Nat → Int32} {M0 : Nat → Nat → Int32} {I1 : Nat → Int32} {L1 : Int64} {M1 : Nat → Nat → Int32} {x1 : Int32} {x2 : Int32} {x3 : Int32} {o4 : Nat → Int64} {r1} {r3} (e1 : fL_entry N I0 M0 x1 x2 x3 o4 = some r1) (e3 : fX12_entry N I1 L1 M1 x1 x2 x3 = some r3) (k0 : KX11 I0 M0) (k1 : KX12 I1 M1) (hr : RQ I0 M0 I1 M1) : RQ r1.2.1 r1.2.2.1 r3.2.1 r3.2.2.2 := by
  have f3 := fr_fX12_entry e3
  have f1 := fr_fL_entry e1
  exact ⟨⟨hr.1.1.cg (f1.1 0 (by decide)) (f3.1 3 (by decide)) (f1.2 0 (by decide)) (f3.2 8 (by decide)), hr.1.2.1.cg (f1.2 13 (by decide)) (f3.2 7 (by decide)), hr.1.2.2.cg (f1.1 9 (by decide)) (f1.1 10 (by decide)) (fun k h1 h2 => f1.2 k ((by decide : ∀ k, k < 7 → 1 ≤ k → ¬ k ∈ fwM_L_entry) k h1 h2)) (f3.1 1 (by decide)) (f3.1 2 (by decide)) (fun k h1 => f3.2 k ((by decide : ∀ k, k < 7 → ¬ k ∈ fwM_X12_entry) k h1))⟩, (hr.2.1).cg (f1.2 23 (by decide)) (f1.2 24 (by decide)) (f3.2 27 (by decide)) (f3.2 28 (by decide)), trivial⟩
theorem rq_cost {N : Nat} (hN : 3000000000 ≤ N) {I0 : Nat → Int32} {M0 : Nat → Nat → Int32} {I1 : Nat → Int32} {L1 : Int64} {M1 : Nat → Nat → Int32} {x1 : Int32} {x2 : Int32} {x3 : Int32} {x4 : Int32} {o5 : Nat → Int64} {r1} {r3} (e1 : fL_cost N I0 M0 x1 x2 x3 x4 o5 = some r1) (e3 : fX12_cost N I1 L1 M1 x1 x2 x3 x4 = some r3) (k0 : KX11 I0 M0) (k1 : KX12 I1 M1) (hr : RQ I0 M0 I1 M1) : RQ r1.2.1 r1.2.2.1 r3.2.1 r3.2.2.2 := by
  have f3 := fr_fX12_cost e3
  have f1 := fr_fL_cost e1
  exact ⟨⟨hr.1.1.cg (f1.1 0 (by decide)) (f3.1 3 (by decide)) (f1.2 0 (by decide)) (f3.2 8 (by decide)), hr.1.2.1.cg (f1.2 13 (by decide)) (f3.2 7 (by decide)), hr.1.2.2.cg (f1.1 9 (by decide)) (f1.1 10 (by decide)) (fun k h1 h2 => f1.2 k ((by decide : ∀ k, k < 7 → 1 ≤ k → ¬ k ∈ fwM_L_cost) k h1 h2)) (f3.1 1 (by decide)) (f3.1 2 (by decide)) (fun k h1 => f3.2 k ((by decide : ∀ k, k < 7 → ¬ k ∈ fwM_X12_cost) k h1))⟩, (hr.2.1).cg (f1.2 23 (by decide)) (f1.2 24 (by decide)) (f3.2 27 (by decide)) (f3.2 28 (by decide)), trivial⟩
theorem rq_best {N : Nat} (hN : 3000000000 ≤ N) {I0 : Nat → Int32} {M0 : Nat → Nat → Int32} {I1 : Nat → Int32} {L1 : Int64} {M1 : Nat → Nat → Int32} {x1 : Int32} {x2 : Int32} {x3 : Int32} {x4 : Int32} {x5 : Int32} {o6 : Nat → Int64} {r1} {r3} (e1 : fL_best N I0 M0 x1 x2 x3 x4 x5 o6 = some r1) (e3 : fX12_best N I1 L1 M1 x1 x2 x3 x4 x5 = some r3) (k0 : KX11 I0 M0) (k1 : KX12 I1 M1) (hr : RQ I0 M0 I1 M1) : RQ r1.2.1 r1.2.2.1 r3.2.1 r3.2.2.2 := by
  have f3 := fr_fX12_best e3
  have f1 := fr_fL_best e1
  exact ⟨⟨hr.1.1.cg (f1.1 0 (by decide)) (f3.1 3 (by decide)) (f1.2 0 (by decide)) (f3.2 8 (by decide)), hr.1.2.1.cg (f1.2 13 (by decide)) (f3.2 7 (by decide)), hr.1.2.2.cg (f1.1 9 (by decide)) (f1.1 10 (by decide)) (fun k h1 h2 => f1.2 k ((by decide : ∀ k, k < 7 → 1 ≤ k → ¬ k ∈ fwM_L_best) k h1 h2)) (f3.1 1 (by decide)) (f3.1 2 (by decide)) (fun k h1 => f3.2 k ((by decide : ∀ k, k < 7 → ¬ k ∈ fwM_X12_best) k h1))⟩, (hr.2.1).cg (f1.2 23 (by decide)) (f1.2 24 (by decide)) (f3.2 27 (by decide)) (f3.2 28 (by decide)), trivial⟩
theorem rq_day {N : Nat} (hN : 3000000000 ≤ N) {I0 : Nat → Int32} {M0 : Nat → Nat → Int32} {I1 : Nat → Int32} {L1 : Int64} {M1 : Nat → Nat → Int32} {x1 : Int32} {o2 : Nat → Int64} {r1} {r3} (e1 : fL_day N I0 M0 x1 o2 = some r1) (e3 : fX12_day N I1 L1 M1 x1 = some r3) (k0 : KX11 I0 M0) (k1 : KX12 I1 M1) (hr : RQ I0 M0 I1 M1) : RQ r1.2.1 r1.2.2.1 r3.2.1 r3.2.2.2 := by
  have f3 := fr_fX12_day e3
  have f1 := fr_fL_day e1
  exact ⟨⟨hr.1.1.cg (f1.1 0 (by decide)) (f3.1 3 (by decide)) (f1.2 0 (by decide)) (f3.2 8 (by decide)), hr.1.2.1.cg (f1.2 13 (by decide)) (f3.2 7 (by decide)), hr.1.2.2.cg (f1.1 9 (by decide)) (f1.1 10 (by decide)) (fun k h1 h2 => f1.2 k ((by decide : ∀ k, k < 7 → 1 ≤ k → ¬ k ∈ fwM_L_day) k h1 h2)) (f3.1 1 (by decide)) (f3.1 2 (by decide)) (fun k h1 => f3.2 k ((by decide : ∀ k, k < 7 → ¬ k ∈ fwM_X12_day) k h1))⟩, (hr.2.1).cg (f1.2 23 (by decide)) (f1.2 24 (by decide)) (f3.2 27 (by decide)) (f3.2 28 (by decide)), trivial⟩
theorem rq_whose {N : Nat} (hN : 3000000000 ≤ N) {I0 : Nat → Int32} {M0 : Nat → Nat → Int32} {I1 : Nat → Int32} {L1 : Int64} {M1 : Nat → Nat → Int32} {x1 : Int32} {x2 : Int32} {x3 : Int32} {x4 : Int32} {x5 : Int32} {o6 : Nat → Int64} {r1} {r3} (e1 : fL_whose N I0 M0 x1 x2 x3 x4 x5 o6 = some r1) (e3 : fX12_whose N I1 L1 M1 x1 x2 x3 x4 x5 = some r3) (k0 : KX11 I0 M0) (k1 : KX12 I1 M1) (hr : RQ I0 M0 I1 M1) : RQ r1.2.1 r1.2.2.1 r3.2.1 r3.2.2.2 := by
  have f3 := fr_fX12_whose e3
  have f1 := fr_fL_whose e1
  exact ⟨⟨hr.1.1.cg (f1.1 0 (by decide)) (f3.1 3 (by decide)) (f1.2 0 (by decide)) (f3.2 8 (by decide)), hr.1.2.1.cg (f1.2 13 (by decide)) (f3.2 7 (by decide)), hr.1.2.2.cg (f1.1 9 (by decide)) (f1.1 10 (by decide)) (fun k h1 h2 => f1.2 k ((by decide : ∀ k, k < 7 → 1 ≤ k → ¬ k ∈ fwM_L_whose) k h1 h2)) (f3.1 1 (by decide)) (f3.1 2 (by decide)) (fun k h1 => f3.2 k ((by decide : ∀ k, k < 7 → ¬ k ∈ fwM_X12_whose) k h1))⟩, (hr.2.1).cg (f1.2 23 (by decide)) (f1.2 24 (by decide)) (f3.2 27 (by decide)) (f3.2 28 (by decide)), trivial⟩
theorem rq_mixed {N : Nat} (hN : 3000000000 ≤ N) {I0 : Nat → Int32} {M0 : Nat → Nat → Int32} {I1 : Nat → Int32} {L1 : Int64} {M1 : Nat → Nat → Int32} {x1 : Int32} {x2 : Int32} {x3 : Int32} {x4 : Int32} {o5 : Nat → Int64} {r1} {r3} (e1 : fL_mixed N I0 M0 x1 x2 x3 x4 o5 = some r1) (e3 : fX12_mixed N I1 L1 M1 x1 x2 x3 x4 = some r3) (k0 : KX11 I0 M0) (k1 : KX12 I1 M1) (hr : RQ I0 M0 I1 M1) : RQ r1.2.1 r1.2.2.1 r3.2.1 r3.2.2.2 := by
  have f3 := fr_fX12_mixed e3
  have f1 := fr_fL_mixed e1
  exact ⟨⟨hr.1.1.cg (f1.1 0 (by decide)) (f3.1 3 (by decide)) (f1.2 0 (by decide)) (f3.2 8 (by decide)), hr.1.2.1.cg (f1.2 13 (by decide)) (f3.2 7 (by decide)), hr.1.2.2.cg (f1.1 9 (by decide)) (f1.1 10 (by decide)) (fun k h1 h2 => f1.2 k ((by decide : ∀ k, k < 7 → 1 ≤ k → ¬ k ∈ fwM_L_mixed) k h1 h2)) (f3.1 1 (by decide)) (f3.1 2 (by decide)) (fun k h1 => f3.2 k ((by decide : ∀ k, k < 7 → ¬ k ∈ fwM_X12_mixed) k h1))⟩, (hr.2.1).cg (f1.2 23 (by decide)) (f1.2 24 (by decide)) (f3.2 27 (by decide)) (f3.2 28 (by decide)), trivial⟩
theorem rq_climb {N : Nat} (hN : 3000000000 ≤ N) {I0 : Nat → Int32} {M0 : Nat → Nat → Int32} {I1 : Nat → Int32} {L1 : Int64} {M1 : Nat → Nat → Int32} {x1 : Int32} {x2 : Int32} {o3 : Nat → Int64} {r1} {r3} (e1 : fL_climb N I0 M0 x1 x2 o3 = some r1) (e3 : fX12_climb N I1 L1 M1 x1 x2 = some r3) (k0 : KX11 I0 M0) (k1 : KX12 I1 M1) (hr : RQ I0 M0 I1 M1) : RQ r1.2.1 r1.2.2.1 r3.2.1 r3.2.2.2 := by
  have f3 := fr_fX12_climb e3
  have f1 := fr_fL_climb e1
  exact ⟨⟨hr.1.1.cg (f1.1 0 (by decide)) (f3.1 3 (by decide)) (f1.2 0 (by decide)) (f3.2 8 (by decide)), hr.1.2.1.cg (f1.2 13 (by decide)) (f3.2 7 (by decide)), hr.1.2.2.cg (f1.1 9 (by decide)) (f1.1 10 (by decide)) (fun k h1 h2 => f1.2 k ((by decide : ∀ k, k < 7 → 1 ≤ k → ¬ k ∈ fwM_L_climb) k h1 h2)) (f3.1 1 (by decide)) (f3.1 2 (by decide)) (fun k h1 => f3.2 k ((by decide : ∀ k, k < 7 → ¬ k ∈ fwM_X12_climb) k h1))⟩, (hr.2.1).cg (f1.2 23 (by decide)) (f1.2 24 (by decide)) (f3.2 27 (by decide)) (f3.2 28 (by decide)), trivial⟩
theorem rq_rise {N : Nat} (hN : 3000000000 ≤ N) {I0 : Nat → Int32} {M0 : Nat → Nat → Int32} {I1 : Nat → Int32} {L1 : Int64} {M1 : Nat → Nat → Int32} {x1 : Int32} {x2 : Int32} {x3 : Int32} {o4 : Nat → Int64} {r1} {r3} (e1 : fL_rise N I0 M0 x1 x2 x3 o4 = some r1) (e3 : fX12_rise N I1 L1 M1 x1 x2 x3 = some r3) (k0 : KX11 I0 M0) (k1 : KX12 I1 M1) (hr : RQ I0 M0 I1 M1) : RQ r1.2.1 r1.2.2.1 r3.2.1 r3.2.2.2 := by
  have f3 := fr_fX12_rise e3
  have f1 := fr_fL_rise e1
  exact ⟨⟨hr.1.1.cg (f1.1 0 (by decide)) (f3.1 3 (by decide)) (f1.2 0 (by decide)) (f3.2 8 (by decide)), hr.1.2.1.cg (f1.2 13 (by decide)) (f3.2 7 (by decide)), hr.1.2.2.cg (f1.1 9 (by decide)) (f1.1 10 (by decide)) (fun k h1 h2 => f1.2 k ((by decide : ∀ k, k < 7 → 1 ≤ k → ¬ k ∈ fwM_L_rise) k h1 h2)) (f3.1 1 (by decide)) (f3.1 2 (by decide)) (fun k h1 => f3.2 k ((by decide : ∀ k, k < 7 → ¬ k ∈ fwM_X12_rise) k h1))⟩, (hr.2.1).cg (f1.2 23 (by decide)) (f1.2 24 (by decide)) (f3.2 27 (by decide)) (f3.2 28 (by decide)), trivial⟩
theorem rq_middle {N : Nat} (hN : 3000000000 ≤ N) {I0 : Nat → Int32} {M0 : Nat → Nat → Int32} {I1 : Nat → Int32} {L1 : Int64} {M1 : Nat → Nat → Int32} {x1 : Int32} {x2 : Int32} {o3 : Nat → Int64} {r1} {r3} (e1 : fL_middle N I0 M0 x1 x2 o3 = some r1) (e3 : fX12_middle N I1 L1 M1 x1 x2 = some r3) (k0 : KX11 I0 M0) (k1 : KX12 I1 M1) (hr : RQ I0 M0 I1 M1) : RQ r1.2.1 r1.2.2.1 r3.2.1 r3.2.2.2 := by
  have f3 := fr_fX12_middle e3
  have f1 := fr_fL_middle e1
  exact ⟨⟨hr.1.1.cg (f1.1 0 (by decide)) (f3.1 3 (by decide)) (f1.2 0 (by decide)) (f3.2 8 (by decide)), hr.1.2.1.cg (f1.2 13 (by decide)) (f3.2 7 (by decide)), hr.1.2.2.cg (f1.1 9 (by decide)) (f1.1 10 (by decide)) (fun k h1 h2 => f1.2 k ((by decide : ∀ k, k < 7 → 1 ≤ k → ¬ k ∈ fwM_L_middle) k h1 h2)) (f3.1 1 (by decide)) (f3.1 2 (by decide)) (fun k h1 => f3.2 k ((by decide : ∀ k, k < 7 → ¬ k ∈ fwM_X12_middle) k h1))⟩, (hr.2.1).cg (f1.2 23 (by decide)) (f1.2 24 (by decide)) (f3.2 27 (by decide)) (f3.2 28 (by decide)), trivial⟩
theorem rq_hour {N : Nat} (hN : 3000000000 ≤ N) {I0 : Nat → Int32} {M0 : Nat → Nat → Int32} {I1 : Nat → Int32} {L1 : Int64} {M1 : Nat → Nat → Int32} {x1 : Int32} {x2 : Int32} {x3 : Int32} {o4 : Nat → Int64} {r1} {r3} (e1 : fL_hour N I0 M0 x1 x2 x3 o4 = some r1) (e3 : fX12_hour N I1 L1 M1 x1 x2 x3 = some r3) (k0 : KX11 I0 M0) (k1 : KX12 I1 M1) (hr : RQ I0 M0 I1 M1) : RQ r1.2.1 r1.2.2.1 r3.2.1 r3.2.2.2 := by
  have f3 := fr_fX12_hour e3
  have f1 := fr_fL_hour e1
  exact ⟨⟨hr.1.1.cg (f1.1 0 (by decide)) (f3.1 3 (by decide)) (f1.2 0 (by decide)) (f3.2 8 (by decide)), hr.1.2.1.cg (f1.2 13 (by decide)) (f3.2 7 (by decide)), hr.1.2.2.cg (f1.1 9 (by decide)) (f1.1 10 (by decide)) (fun k h1 h2 => f1.2 k ((by decide : ∀ k, k < 7 → 1 ≤ k → ¬ k ∈ fwM_L_hour) k h1 h2)) (f3.1 1 (by decide)) (f3.1 2 (by decide)) (fun k h1 => f3.2 k ((by decide : ∀ k, k < 7 → ¬ k ∈ fwM_X12_hour) k h1))⟩, (hr.2.1).cg (f1.2 23 (by decide)) (f1.2 24 (by decide)) (f3.2 27 (by decide)) (f3.2 28 (by decide)), trivial⟩
theorem rq_houseOf {N : Nat} (hN : 3000000000 ≤ N) {I0 : Nat → Int32} {M0 : Nat → Nat → Int32} {I1 : Nat → Int32} {L1 : Int64} {M1 : Nat → Nat → Int32} {x1 : Int32} {x2 : Int32} {x3 : Int32} {x4 : Int32} {o5 : Nat → Int64} {r1} {r3} (e1 : fL_houseOf N I0 M0 x1 x2 x3 x4 o5 = some r1) (e3 : fX12_houseOf N I1 L1 M1 x1 x2 x3 x4 = some r3) (k0 : KX11 I0 M0) (k1 : KX12 I1 M1) (hr : RQ I0 M0 I1 M1) : RQ r1.2.1 r1.2.2.1 r3.2.1 r3.2.2.2 := by
  have f3 := fr_fX12_houseOf e3
  have f1 := fr_fL_houseOf e1
  exact ⟨⟨hr.1.1.cg (f1.1 0 (by decide)) (f3.1 3 (by decide)) (f1.2 0 (by decide)) (f3.2 8 (by decide)), hr.1.2.1.cg (f1.2 13 (by decide)) (f3.2 7 (by decide)), hr.1.2.2.cg (f1.1 9 (by decide)) (f1.1 10 (by decide)) (fun k h1 h2 => f1.2 k ((by decide : ∀ k, k < 7 → 1 ≤ k → ¬ k ∈ fwM_L_houseOf) k h1 h2)) (f3.1 1 (by decide)) (f3.1 2 (by decide)) (fun k h1 => f3.2 k ((by decide : ∀ k, k < 7 → ¬ k ∈ fwM_X12_houseOf) k h1))⟩, (hr.2.1).cg (f1.2 23 (by decide)) (f1.2 24 (by decide)) (f3.2 27 (by decide)) (f3.2 28 (by decide)), trivial⟩
theorem rq_agree {N : Nat} (hN : 3000000000 ≤ N) {I0 : Nat → Int32} {M0 : Nat → Nat → Int32} {I1 : Nat → Int32} {L1 : Int64} {M1 : Nat → Nat → Int32} {x1 : Int32} {x2 : Int32} {x3 : Int32} {x4 : Int32} {o5 : Nat → Int64} {r1} {r3} (e1 : fL_agree N I0 M0 x1 x2 x3 x4 o5 = some r1) (e3 : fX12_agree N I1 L1 M1 x1 x2 x3 x4 = some r3) (k0 : KX11 I0 M0) (k1 : KX12 I1 M1) (hr : RQ I0 M0 I1 M1) : RQ r1.2.1 r1.2.2.1 r3.2.1 r3.2.2.2 := by
  have f3 := fr_fX12_agree e3
  have f1 := fr_fL_agree e1
  exact ⟨⟨hr.1.1.cg (f1.1 0 (by decide)) (f3.1 3 (by decide)) (f1.2 0 (by decide)) (f3.2 8 (by decide)), hr.1.2.1.cg (f1.2 13 (by decide)) (f3.2 7 (by decide)), hr.1.2.2.cg (f1.1 9 (by decide)) (f1.1 10 (by decide)) (fun k h1 h2 => f1.2 k ((by decide : ∀ k, k < 7 → 1 ≤ k → ¬ k ∈ fwM_L_agree) k h1 h2)) (f3.1 1 (by decide)) (f3.1 2 (by decide)) (fun k h1 => f3.2 k ((by decide : ∀ k, k < 7 → ¬ k ∈ fwM_X12_agree) k h1))⟩, (hr.2.1).cg (f1.2 23 (by decide)) (f1.2 24 (by decide)) (f3.2 27 (by decide)) (f3.2 28 (by decide)), trivial⟩
theorem rq_lot {N : Nat} (hN : 3000000000 ≤ N) {I0 : Nat → Int32} {M0 : Nat → Nat → Int32} {I1 : Nat → Int32} {L1 : Int64} {M1 : Nat → Nat → Int32} {x1 : Int32} {x2 : Int32} {x3 : Int32} {o4 : Nat → Int64} {r1} {r3} (e1 : fL_lot N I0 M0 x1 x2 x3 o4 = some r1) (e3 : fX12_lot N I1 L1 M1 x1 x2 x3 = some r3) (k0 : KX11 I0 M0) (k1 : KX12 I1 M1) (hr : RQ I0 M0 I1 M1) : RQ r1.2.1 r1.2.2.1 r3.2.1 r3.2.2.2 := by
  have f3 := fr_fX12_lot e3
  have f1 := fr_fL_lot e1
  exact ⟨⟨hr.1.1.cg (f1.1 0 (by decide)) (f3.1 3 (by decide)) (f1.2 0 (by decide)) (f3.2 8 (by decide)), hr.1.2.1.cg (f1.2 13 (by decide)) (f3.2 7 (by decide)), hr.1.2.2.cg (f1.1 9 (by decide)) (f1.1 10 (by decide)) (fun k h1 h2 => f1.2 k ((by decide : ∀ k, k < 7 → 1 ≤ k → ¬ k ∈ fwM_L_lot) k h1 h2)) (f3.1 1 (by decide)) (f3.1 2 (by decide)) (fun k h1 => f3.2 k ((by decide : ∀ k, k < 7 → ¬ k ∈ fwM_X12_lot) k h1))⟩, (hr.2.1).cg (f1.2 23 (by decide)) (f1.2 24 (by decide)) (f3.2 27 (by decide)) (f3.2 28 (by decide)), trivial⟩
theorem rq_price {N : Nat} (hN : 3000000000 ≤ N) {I0 : Nat → Int32} {M0 : Nat → Nat → Int32} {I1 : Nat → Int32} {L1 : Int64} {M1 : Nat → Nat → Int32} {x1 : Int32} {x2 : Int32} {o3 : Nat → Int64} {r1} {r3} (e1 : fL_price N I0 M0 x1 x2 o3 = some r1) (e3 : fX12_price N I1 L1 M1 x1 x2 = some r3) (k0 : KX11 I0 M0) (k1 : KX12 I1 M1) (hr : RQ I0 M0 I1 M1) : RQ r1.2.1 r1.2.2.1 r3.2.1 r3.2.2.2 := by
  have f3 := fr_fX12_price e3
  have f1 := fr_fL_price e1
  exact ⟨⟨hr.1.1.cg (f1.1 0 (by decide)) (f3.1 3 (by decide)) (f1.2 0 (by decide)) (f3.2 8 (by decide)), hr.1.2.1.cg (f1.2 13 (by decide)) (f3.2 7 (by decide)), hr.1.2.2.cg (f1.1 9 (by decide)) (f1.1 10 (by decide)) (fun k h1 h2 => f1.2 k ((by decide : ∀ k, k < 7 → 1 ≤ k → ¬ k ∈ fwM_L_price) k h1 h2)) (f3.1 1 (by decide)) (f3.1 2 (by decide)) (fun k h1 => f3.2 k ((by decide : ∀ k, k < 7 → ¬ k ∈ fwM_X12_price) k h1))⟩, (hr.2.1).cg (f1.2 23 (by decide)) (f1.2 24 (by decide)) (f3.2 27 (by decide)) (f3.2 28 (by decide)), trivial⟩
theorem rq_seek {N : Nat} (hN : 3000000000 ≤ N) {I0 : Nat → Int32} {M0 : Nat → Nat → Int32} {I1 : Nat → Int32} {L1 : Int64} {M1 : Nat → Nat → Int32} {x1 : Int32} {x2 : Int32} {x3 : Int32} {x4 : Int32} {r1} {r3} (e1 : fL_seek N I0 M0 x1 x2 x3 x4 = some r1) (e3 : fX12_seek N I1 L1 M1 x1 x2 x3 x4 = some r3) (k0 : KX11 I0 M0) (k1 : KX12 I1 M1) (hr : RQ I0 M0 I1 M1) : RQ r1.2.1 r1.2.2 r3.1 r3.2.2 := by
  have f3 := fr_fX12_seek e3
  have f1 := fr_fL_seek e1
  exact ⟨⟨hr.1.1.cg (f1.1 0 (by decide)) (f3.1 3 (by decide)) (f1.2 0 (by decide)) (f3.2 8 (by decide)), hr.1.2.1.cg (f1.2 13 (by decide)) (f3.2 7 (by decide)), hr.1.2.2.cg (f1.1 9 (by decide)) (f1.1 10 (by decide)) (fun k h1 h2 => f1.2 k ((by decide : ∀ k, k < 7 → 1 ≤ k → ¬ k ∈ fwM_L_seek) k h1 h2)) (f3.1 1 (by decide)) (f3.1 2 (by decide)) (fun k h1 => f3.2 k ((by decide : ∀ k, k < 7 → ¬ k ∈ fwM_X12_seek) k h1))⟩, (hr.2.1).cg (f1.2 23 (by decide)) (f1.2 24 (by decide)) (f3.2 27 (by decide)) (f3.2 28 (by decide)), trivial⟩
theorem rq_on {N : Nat} (hN : 3000000000 ≤ N) {I0 : Nat → Int32} {M0 : Nat → Nat → Int32} {I1 : Nat → Int32} {L1 : Int64} {M1 : Nat → Nat → Int32} {x1 : Int32} {o2 : Nat → Int64} {r1} {r3} (e1 : fL_on N I0 M0 x1 o2 = some r1) (e3 : fX12_on N I1 L1 M1 x1 = some r3) (k0 : KX11 I0 M0) (k1 : KX12 I1 M1) (hr : RQ I0 M0 I1 M1) : RQ r1.2.1 r1.2.2.1 r3.2.1 r3.2.2.2 := by
  have f3 := fr_fX12_on e3
  have f1 := fr_fL_on e1
  exact ⟨⟨hr.1.1.cg (f1.1 0 (by decide)) (f3.1 3 (by decide)) (f1.2 0 (by decide)) (f3.2 8 (by decide)), hr.1.2.1.cg (f1.2 13 (by decide)) (f3.2 7 (by decide)), hr.1.2.2.cg (f1.1 9 (by decide)) (f1.1 10 (by decide)) (fun k h1 h2 => f1.2 k ((by decide : ∀ k, k < 7 → 1 ≤ k → ¬ k ∈ fwM_L_on) k h1 h2)) (f3.1 1 (by decide)) (f3.1 2 (by decide)) (fun k h1 => f3.2 k ((by decide : ∀ k, k < 7 → ¬ k ∈ fwM_X12_on) k h1))⟩, (hr.2.1).cg (f1.2 23 (by decide)) (f1.2 24 (by decide)) (f3.2 27 (by decide)) (f3.2 28 (by decide)), trivial⟩
theorem rq_held {N : Nat} (hN : 3000000000 ≤ N) {I0 : Nat → Int32} {M0 : Nat → Nat → Int32} {I1 : Nat → Int32} {L1 : Int64} {M1 : Nat → Nat → Int32} {x1 : Int32} {o2 : Nat → Int64} {r1} {r3} (e1 : fL_held N I0 M0 x1 o2 = some r1) (e3 : fX12_held N I1 L1 M1 x1 = some r3) (k0 : KX11 I0 M0) (k1 : KX12 I1 M1) (hr : RQ I0 M0 I1 M1) : RQ r1.2.1 r1.2.2.1 r3.2.1 r3.2.2.2 := by
  have f3 := fr_fX12_held e3
  have f1 := fr_fL_held e1
  exact ⟨⟨hr.1.1.cg (f1.1 0 (by decide)) (f3.1 3 (by decide)) (f1.2 0 (by decide)) (f3.2 8 (by decide)), hr.1.2.1.cg (f1.2 13 (by decide)) (f3.2 7 (by decide)), hr.1.2.2.cg (f1.1 9 (by decide)) (f1.1 10 (by decide)) (fun k h1 h2 => f1.2 k ((by decide : ∀ k, k < 7 → 1 ≤ k → ¬ k ∈ fwM_L_held) k h1 h2)) (f3.1 1 (by decide)) (f3.1 2 (by decide)) (fun k h1 => f3.2 k ((by decide : ∀ k, k < 7 → ¬ k ∈ fwM_X12_held) k h1))⟩, (hr.2.1).cg (f1.2 23 (by decide)) (f1.2 24 (by decide)) (f3.2 27 (by decide)) (f3.2 28 (by decide)), trivial⟩
theorem rq_image {N : Nat} (hN : 3000000000 ≤ N) {I0 : Nat → Int32} {M0 : Nat → Nat → Int32} {I1 : Nat → Int32} {L1 : Int64} {M1 : Nat → Nat → Int32} {r1} {r2} (e1 : fX11_image N I0 M0  = some r1) (e3 : fX12_image N I1 L1 M1  = some r2) (k0 : KX11 I0 M0) (k1 : KX12 I1 M1) (hr : RQ I0 M0 I1 M1) : RQ r1.2.1 r1.2.2 r2.2.1 r2.2.2.2 := by
  have f3 := fr_fX12_image e3
  have f1 := fr_fX11_image e1
  exact ⟨⟨hr.1.1.cg (f1.1 0 (by decide)) (f3.1 3 (by decide)) (f1.2 0 (by decide)) (f3.2 8 (by decide)), hr.1.2.1.cg (f1.2 13 (by decide)) (f3.2 7 (by decide)), hr.1.2.2.cg (f1.1 9 (by decide)) (f1.1 10 (by decide)) (fun k h1 h2 => f1.2 k ((by decide : ∀ k, k < 7 → 1 ≤ k → ¬ k ∈ fwM_X11_image) k h1 h2)) (f3.1 1 (by decide)) (f3.1 2 (by decide)) (fun k h1 => f3.2 k ((by decide : ∀ k, k < 7 → ¬ k ∈ fwM_X12_image) k h1))⟩, (hr.2.1).cg (f1.2 23 (by decide)) (f1.2 24 (by decide)) (f3.2 27 (by decide)) (f3.2 28 (by decide)), trivial⟩
theorem rq_restore {N : Nat} (hN : 3000000000 ≤ N) {I0 : Nat → Int32} {M0 : Nat → Nat → Int32} {I1 : Nat → Int32} {L1 : Int64} {M1 : Nat → Nat → Int32} {r1} {r2} (e1 : fX11_restore N I0 M0  = some r1) (e3 : fX12_restore N I1 L1 M1  = some r2) (k0 : KX11 I0 M0) (k1 : KX12 I1 M1) (hr : RQ I0 M0 I1 M1) : RQ r1.2.1 r1.2.2 r2.2.1 r2.2.2.2 := by
  have f3 := fr_fX12_restore e3
  have f1 := fr_fX11_restore e1
  exact ⟨⟨hr.1.1.cg (f1.1 0 (by decide)) (f3.1 3 (by decide)) (f1.2 0 (by decide)) (f3.2 8 (by decide)), hr.1.2.1.cg (f1.2 13 (by decide)) (f3.2 7 (by decide)), hr.1.2.2.cg (f1.1 9 (by decide)) (f1.1 10 (by decide)) (fun k h1 h2 => f1.2 k ((by decide : ∀ k, k < 7 → 1 ≤ k → ¬ k ∈ fwM_X11_restore) k h1 h2)) (f3.1 1 (by decide)) (f3.1 2 (by decide)) (fun k h1 => f3.2 k ((by decide : ∀ k, k < 7 → ¬ k ∈ fwM_X12_restore) k h1))⟩, (hr.2.1).cg (f1.2 23 (by decide)) (f1.2 24 (by decide)) (f3.2 27 (by decide)) (f3.2 28 (by decide)), trivial⟩
theorem rq_misread {N : Nat} (hN : 3000000000 ≤ N) {I0 : Nat → Int32} {M0 : Nat → Nat → Int32} {I1 : Nat → Int32} {L1 : Int64} {M1 : Nat → Nat → Int32} {x1 : Int32} {x2 : Int32} {x3 : Int32} {x4 : Int32} {x5 : Int32} {o6 : Nat → Int64} {r1} {r3} (e1 : fL_misread N I0 M0 x1 x2 x3 x4 x5 o6 = some r1) (e3 : fX12_misread N I1 L1 M1 x1 x2 x3 x4 x5 = some r3) (k0 : KX11 I0 M0) (k1 : KX12 I1 M1) (hr : RQ I0 M0 I1 M1) : RQ r1.2.1 r1.2.2.1 r3.2.1 r3.2.2.2 := by
  have f3 := fr_fX12_misread e3
  have f1 := fr_fL_misread e1
  exact ⟨⟨hr.1.1.cg (f1.1 0 (by decide)) (f3.1 3 (by decide)) (f1.2 0 (by decide)) (f3.2 8 (by decide)), hr.1.2.1.cg (f1.2 13 (by decide)) (f3.2 7 (by decide)), hr.1.2.2.cg (f1.1 9 (by decide)) (f1.1 10 (by decide)) (fun k h1 h2 => f1.2 k ((by decide : ∀ k, k < 7 → 1 ≤ k → ¬ k ∈ fwM_L_misread) k h1 h2)) (f3.1 1 (by decide)) (f3.1 2 (by decide)) (fun k h1 => f3.2 k ((by decide : ∀ k, k < 7 → ¬ k ∈ fwM_X12_misread) k h1))⟩, (hr.2.1).cg (f1.2 23 (by decide)) (f1.2 24 (by decide)) (f3.2 27 (by decide)) (f3.2 28 (by decide)), trivial⟩
theorem rq_errors {N : Nat} (hN : 3000000000 ≤ N) {I0 : Nat → Int32} {M0 : Nat → Nat → Int32} {I1 : Nat → Int32} {L1 : Int64} {M1 : Nat → Nat → Int32} {x1 : Int32} {x2 : Int32} {x3 : Int32} {x4 : Int32} {o5 : Nat → Int64} {r1} {r3} (e1 : fL_errors N I0 M0 x1 x2 x3 x4 o5 = some r1) (e3 : fX12_errors N I1 L1 M1 x1 x2 x3 x4 = some r3) (k0 : KX11 I0 M0) (k1 : KX12 I1 M1) (hr : RQ I0 M0 I1 M1) : RQ r1.2.1 r1.2.2.1 r3.2.1 r3.2.2.2 := by
  have f3 := fr_fX12_errors e3
  have f1 := fr_fL_errors e1
  exact ⟨⟨hr.1.1.cg (f1.1 0 (by decide)) (f3.1 3 (by decide)) (f1.2 0 (by decide)) (f3.2 8 (by decide)), hr.1.2.1.cg (f1.2 13 (by decide)) (f3.2 7 (by decide)), hr.1.2.2.cg (f1.1 9 (by decide)) (f1.1 10 (by decide)) (fun k h1 h2 => f1.2 k ((by decide : ∀ k, k < 7 → 1 ≤ k → ¬ k ∈ fwM_L_errors) k h1 h2)) (f3.1 1 (by decide)) (f3.1 2 (by decide)) (fun k h1 => f3.2 k ((by decide : ∀ k, k < 7 → ¬ k ∈ fwM_X12_errors) k h1))⟩, (hr.2.1).cg (f1.2 23 (by decide)) (f1.2 24 (by decide)) (f3.2 27 (by decide)) (f3.2 28 (by decide)), trivial⟩
theorem rq_possible {N : Nat} (hN : 3000000000 ≤ N) {I0 : Nat → Int32} {M0 : Nat → Nat → Int32} {I1 : Nat → Int32} {L1 : Int64} {M1 : Nat → Nat → Int32} {x1 : Int32} {x2 : Int32} {x3 : Int32} {o4 : Nat → Int64} {r1} {r3} (e1 : fL_possible N I0 M0 x1 x2 x3 o4 = some r1) (e3 : fX12_possible N I1 L1 M1 x1 x2 x3 = some r3) (k0 : KX11 I0 M0) (k1 : KX12 I1 M1) (hr : RQ I0 M0 I1 M1) : RQ r1.2.1 r1.2.2.1 r3.2.1 r3.2.2.2 := by
  have f3 := fr_fX12_possible e3
  have f1 := fr_fL_possible e1
  exact ⟨⟨hr.1.1.cg (f1.1 0 (by decide)) (f3.1 3 (by decide)) (f1.2 0 (by decide)) (f3.2 8 (by decide)), hr.1.2.1.cg (f1.2 13 (by decide)) (f3.2 7 (by decide)), hr.1.2.2.cg (f1.1 9 (by decide)) (f1.1 10 (by decide)) (fun k h1 h2 => f1.2 k ((by decide : ∀ k, k < 7 → 1 ≤ k → ¬ k ∈ fwM_L_possible) k h1 h2)) (f3.1 1 (by decide)) (f3.1 2 (by decide)) (fun k h1 => f3.2 k ((by decide : ∀ k, k < 7 → ¬ k ∈ fwM_X12_possible) k h1))⟩, (hr.2.1).cg (f1.2 23 (by decide)) (f1.2 24 (by decide)) (f3.2 27 (by decide)) (f3.2 28 (by decide)), trivial⟩
theorem rq_slips {N : Nat} (hN : 3000000000 ≤ N) {I0 : Nat → Int32} {M0 : Nat → Nat → Int32} {I1 : Nat → Int32} {L1 : Int64} {M1 : Nat → Nat → Int32} {x1 : Int32} {x2 : Int32} {o3 : Nat → Int64} {r1} {r3} (e1 : fL_slips N I0 M0 x1 x2 o3 = some r1) (e3 : fX12_slips N I1 L1 M1 x1 x2 = some r3) (k0 : KX11 I0 M0) (k1 : KX12 I1 M1) (hr : RQ I0 M0 I1 M1) : RQ r1.2.1 r1.2.2.1 r3.2.1 r3.2.2.2 := by
  have f3 := fr_fX12_slips e3
  have f1 := fr_fL_slips e1
  exact ⟨⟨hr.1.1.cg (f1.1 0 (by decide)) (f3.1 3 (by decide)) (f1.2 0 (by decide)) (f3.2 8 (by decide)), hr.1.2.1.cg (f1.2 13 (by decide)) (f3.2 7 (by decide)), hr.1.2.2.cg (f1.1 9 (by decide)) (f1.1 10 (by decide)) (fun k h1 h2 => f1.2 k ((by decide : ∀ k, k < 7 → 1 ≤ k → ¬ k ∈ fwM_L_slips) k h1 h2)) (f3.1 1 (by decide)) (f3.1 2 (by decide)) (fun k h1 => f3.2 k ((by decide : ∀ k, k < 7 → ¬ k ∈ fwM_X12_slips) k h1))⟩, (hr.2.1).cg (f1.2 23 (by decide)) (f1.2 24 (by decide)) (f3.2 27 (by decide)) (f3.2 28 (by decide)), trivial⟩
theorem rq_handed {N : Nat} (hN : 3000000000 ≤ N) {I0 : Nat → Int32} {M0 : Nat → Nat → Int32} {I1 : Nat → Int32} {L1 : Int64} {M1 : Nat → Nat → Int32} {x1 : Int32} {x2 : Int32} {x3 : Int32} {o4 : Nat → Int64} {r1} {r3} (e1 : fL_handed N I0 M0 x1 x2 x3 o4 = some r1) (e3 : fX12_handed N I1 L1 M1 x1 x2 x3 = some r3) (k0 : KX11 I0 M0) (k1 : KX12 I1 M1) (hr : RQ I0 M0 I1 M1) : RQ r1.2.1 r1.2.2.1 r3.2.1 r3.2.2.2 := by
  have f3 := fr_fX12_handed e3
  have f1 := fr_fL_handed e1
  exact ⟨⟨hr.1.1.cg (f1.1 0 (by decide)) (f3.1 3 (by decide)) (f1.2 0 (by decide)) (f3.2 8 (by decide)), hr.1.2.1.cg (f1.2 13 (by decide)) (f3.2 7 (by decide)), hr.1.2.2.cg (f1.1 9 (by decide)) (f1.1 10 (by decide)) (fun k h1 h2 => f1.2 k ((by decide : ∀ k, k < 7 → 1 ≤ k → ¬ k ∈ fwM_L_handed) k h1 h2)) (f3.1 1 (by decide)) (f3.1 2 (by decide)) (fun k h1 => f3.2 k ((by decide : ∀ k, k < 7 → ¬ k ∈ fwM_X12_handed) k h1))⟩, (hr.2.1).cg (f1.2 23 (by decide)) (f1.2 24 (by decide)) (f3.2 27 (by decide)) (f3.2 28 (by decide)), trivial⟩
theorem rq_leaf {N : Nat} (hN : 3000000000 ≤ N) {I0 : Nat → Int32} {M0 : Nat → Nat → Int32} {I1 : Nat → Int32} {L1 : Int64} {M1 : Nat → Nat → Int32} {x1 : Int32} {x2 : Int32} {o3 : Nat → Int64} {r1} {r3} (e1 : fL_leaf N I0 M0 x1 x2 o3 = some r1) (e3 : fX12_leaf N I1 L1 M1 x1 x2 = some r3) (k0 : KX11 I0 M0) (k1 : KX12 I1 M1) (hr : RQ I0 M0 I1 M1) : RQ r1.2.1 r1.2.2.1 r3.2.1 r3.2.2.2 := by
  have f3 := fr_fX12_leaf e3
  have f1 := fr_fL_leaf e1
  have g1 := gr_fL_leaf e1
  exact ⟨⟨hr.1.1.cg (f1.1 0 (by decide)) (f3.1 3 (by decide)) (f1.2 0 (by decide)) (f3.2 8 (by decide)), hr.1.2.1.cg (f1.2 13 (by decide)) (f3.2 7 (by decide)), hr.1.2.2.cg (f1.1 9 (by decide)) (f1.1 10 (by decide)) (fun k h1 h2 => f1.2 k ((by decide : ∀ k, k < 7 → 1 ≤ k → ¬ k ∈ fwM_L_leaf) k h1 h2)) (f3.1 1 (by decide)) (f3.1 2 (by decide)) (fun k h1 => f3.2 k ((by decide : ∀ k, k < 7 → ¬ k ∈ fwM_X12_leaf) k h1))⟩, (an_leaf hN k0 k1 e1 e3 hr.1 hr.2.1).2, trivial⟩
theorem rq_order {N : Nat} (hN : 3000000000 ≤ N) {I0 : Nat → Int32} {M0 : Nat → Nat → Int32} {I1 : Nat → Int32} {L1 : Int64} {M1 : Nat → Nat → Int32} {x1 : Int32} {x2 : Int32} {x3 : Int32} {o4 : Nat → Int64} {r1} {r3} (e1 : fL_order N I0 M0 x1 x2 x3 o4 = some r1) (e3 : fX12_order N I1 L1 M1 x1 x2 x3 = some r3) (k0 : KX11 I0 M0) (k1 : KX12 I1 M1) (hr : RQ I0 M0 I1 M1) : RQ r1.2.1 r1.2.2.1 r3.2.1 r3.2.2.2 := by
  have f3 := fr_fX12_order e3
  have f1 := fr_fL_order e1
  have g1 := gr_fL_order e1
  exact ⟨⟨hr.1.1.cg (f1.1 0 (by decide)) (f3.1 3 (by decide)) (f1.2 0 (by decide)) (f3.2 8 (by decide)), hr.1.2.1.cg (f1.2 13 (by decide)) (f3.2 7 (by decide)), hr.1.2.2.cg (f1.1 9 (by decide)) (f1.1 10 (by decide)) (fun k h1 h2 => f1.2 k ((by decide : ∀ k, k < 7 → 1 ≤ k → ¬ k ∈ fwM_L_order) k h1 h2)) (f3.1 1 (by decide)) (f3.1 2 (by decide)) (fun k h1 => f3.2 k ((by decide : ∀ k, k < 7 → ¬ k ∈ fwM_X12_order) k h1))⟩, (hr.2.1).cg (g1.2 23 (by decide)) (g1.2 24 (by decide)) (f3.2 27 (by decide)) (f3.2 28 (by decide)), trivial⟩
theorem rq_same {N : Nat} (hN : 3000000000 ≤ N) {I0 : Nat → Int32} {M0 : Nat → Nat → Int32} {I1 : Nat → Int32} {L1 : Int64} {M1 : Nat → Nat → Int32} {x1 : Int32} {x2 : Int32} {x3 : Int32} {o4 : Nat → Int64} {r1} {r3} (e1 : fL_same N I0 M0 x1 x2 x3 o4 = some r1) (e3 : fX12_same N I1 L1 M1 x1 x2 x3 = some r3) (k0 : KX11 I0 M0) (k1 : KX12 I1 M1) (hr : RQ I0 M0 I1 M1) : RQ r1.2.1 r1.2.2.1 r3.2.1 r3.2.2.2 := by
  have f3 := fr_fX12_same e3
  have f1 := fr_fL_same e1
  exact ⟨⟨hr.1.1.cg (f1.1 0 (by decide)) (f3.1 3 (by decide)) (f1.2 0 (by decide)) (f3.2 8 (by decide)), hr.1.2.1.cg (f1.2 13 (by decide)) (f3.2 7 (by decide)), hr.1.2.2.cg (f1.1 9 (by decide)) (f1.1 10 (by decide)) (fun k h1 h2 => f1.2 k ((by decide : ∀ k, k < 7 → 1 ≤ k → ¬ k ∈ fwM_L_same) k h1 h2)) (f3.1 1 (by decide)) (f3.1 2 (by decide)) (fun k h1 => f3.2 k ((by decide : ∀ k, k < 7 → ¬ k ∈ fwM_X12_same) k h1))⟩, (hr.2.1).cg (f1.2 23 (by decide)) (f1.2 24 (by decide)) (f3.2 27 (by decide)) (f3.2 28 (by decide)), trivial⟩
theorem rq_births {N : Nat} (hN : 3000000000 ≤ N) {I0 : Nat → Int32} {M0 : Nat → Nat → Int32} {I1 : Nat → Int32} {L1 : Int64} {M1 : Nat → Nat → Int32} {x1 : Int32} {x2 : Int32} {o3 : Nat → Int64} {r1} {r3} (e1 : fL_births N I0 M0 x1 x2 o3 = some r1) (e3 : fX12_births N I1 L1 M1 x1 x2 = some r3) (k0 : KX11 I0 M0) (k1 : KX12 I1 M1) (hr : RQ I0 M0 I1 M1) : RQ r1.2.1 r1.2.2.1 r3.2.1 r3.2.2.2 := by
  have f3 := fr_fX12_births e3
  have f1 := fr_fL_births e1
  exact ⟨⟨hr.1.1.cg (f1.1 0 (by decide)) (f3.1 3 (by decide)) (f1.2 0 (by decide)) (f3.2 8 (by decide)), hr.1.2.1.cg (f1.2 13 (by decide)) (f3.2 7 (by decide)), hr.1.2.2.cg (f1.1 9 (by decide)) (f1.1 10 (by decide)) (fun k h1 h2 => f1.2 k ((by decide : ∀ k, k < 7 → 1 ≤ k → ¬ k ∈ fwM_L_births) k h1 h2)) (f3.1 1 (by decide)) (f3.1 2 (by decide)) (fun k h1 => f3.2 k ((by decide : ∀ k, k < 7 → ¬ k ∈ fwM_X12_births) k h1))⟩, (hr.2.1).cg (f1.2 23 (by decide)) (f1.2 24 (by decide)) (f3.2 27 (by decide)) (f3.2 28 (by decide)), trivial⟩
theorem rq_tree {N : Nat} (hN : 3000000000 ≤ N) {I0 : Nat → Int32} {M0 : Nat → Nat → Int32} {I1 : Nat → Int32} {L1 : Int64} {M1 : Nat → Nat → Int32} {r1} {r2} (e1 : fX11_tree N I0 M0  = some r1) (e3 : fX12_tree N I1 L1 M1  = some r2) (k0 : KX11 I0 M0) (k1 : KX12 I1 M1) (hr : RQ I0 M0 I1 M1) : RQ r1.2.1 r1.2.2 r2.2.1 r2.2.2.2 := by
  have f3 := fr_fX12_tree e3
  have f1 := fr_fX11_tree e1
  exact ⟨⟨hr.1.1.cg (f1.1 0 (by decide)) (f3.1 3 (by decide)) (f1.2 0 (by decide)) (f3.2 8 (by decide)), hr.1.2.1.cg (f1.2 13 (by decide)) (f3.2 7 (by decide)), hr.1.2.2.cg (f1.1 9 (by decide)) (f1.1 10 (by decide)) (fun k h1 h2 => f1.2 k ((by decide : ∀ k, k < 7 → 1 ≤ k → ¬ k ∈ fwM_X11_tree) k h1 h2)) (f3.1 1 (by decide)) (f3.1 2 (by decide)) (fun k h1 => f3.2 k ((by decide : ∀ k, k < 7 → ¬ k ∈ fwM_X12_tree) k h1))⟩, (hr.2.1).cg (f1.2 23 (by decide)) (f1.2 24 (by decide)) (f3.2 27 (by decide)) (f3.2 28 (by decide)), trivial⟩
theorem rq_whence {N : Nat} (hN : 3000000000 ≤ N) {I0 : Nat → Int32} {M0 : Nat → Nat → Int32} {I1 : Nat → Int32} {L1 : Int64} {M1 : Nat → Nat → Int32} {x1 : Int32} {o2 : Nat → Int64} {r1} {r3} (e1 : fL_whence N I0 M0 x1 o2 = some r1) (e3 : fX12_whence N I1 L1 M1 x1 = some r3) (k0 : KX11 I0 M0) (k1 : KX12 I1 M1) (hr : RQ I0 M0 I1 M1) : RQ r1.2.1 r1.2.2.1 r3.2.1 r3.2.2.2 := by
  have f3 := fr_fX12_whence e3
  have f1 := fr_fL_whence e1
  exact ⟨⟨hr.1.1.cg (f1.1 0 (by decide)) (f3.1 3 (by decide)) (f1.2 0 (by decide)) (f3.2 8 (by decide)), hr.1.2.1.cg (f1.2 13 (by decide)) (f3.2 7 (by decide)), hr.1.2.2.cg (f1.1 9 (by decide)) (f1.1 10 (by decide)) (fun k h1 h2 => f1.2 k ((by decide : ∀ k, k < 7 → 1 ≤ k → ¬ k ∈ fwM_L_whence) k h1 h2)) (f3.1 1 (by decide)) (f3.1 2 (by decide)) (fun k h1 => f3.2 k ((by decide : ∀ k, k < 7 → ¬ k ∈ fwM_X12_whence) k h1))⟩, (hr.2.1).cg (f1.2 23 (by decide)) (f1.2 24 (by decide)) (f3.2 27 (by decide)) (f3.2 28 (by decide)), trivial⟩
theorem rq_life {N : Nat} (hN : 3000000000 ≤ N) {I0 : Nat → Int32} {M0 : Nat → Nat → Int32} {I1 : Nat → Int32} {L1 : Int64} {M1 : Nat → Nat → Int32} {x1 : Int32} {x2 : Int32} {x3 : Int32} {o4 : Nat → Int64} {r1} {r3} (e1 : fL_life N I0 M0 x1 x2 x3 o4 = some r1) (e3 : fX12_life N I1 L1 M1 x1 x2 x3 = some r3) (k0 : KX11 I0 M0) (k1 : KX12 I1 M1) (hr : RQ I0 M0 I1 M1) : RQ r1.2.1 r1.2.2.1 r3.2.1 r3.2.2.2 := by
  have f3 := fr_fX12_life e3
  have f1 := fr_fL_life e1
  have g1 := gr_fL_life e1
  exact ⟨⟨hr.1.1.cg (f1.1 0 (by decide)) (f3.1 3 (by decide)) (f1.2 0 (by decide)) (f3.2 8 (by decide)), hr.1.2.1.cg (f1.2 13 (by decide)) (f3.2 7 (by decide)), hr.1.2.2.cg (f1.1 9 (by decide)) (f1.1 10 (by decide)) (fun k h1 h2 => f1.2 k ((by decide : ∀ k, k < 7 → 1 ≤ k → ¬ k ∈ fwM_L_life) k h1 h2)) (f3.1 1 (by decide)) (f3.1 2 (by decide)) (fun k h1 => f3.2 k ((by decide : ∀ k, k < 7 → ¬ k ∈ fwM_X12_life) k h1))⟩, (hr.2.1).cg (g1.2 23 (by decide)) (g1.2 24 (by decide)) (f3.2 27 (by decide)) (f3.2 28 (by decide)), trivial⟩
theorem rq_fate {N : Nat} (hN : 3000000000 ≤ N) {I0 : Nat → Int32} {M0 : Nat → Nat → Int32} {I1 : Nat → Int32} {L1 : Int64} {M1 : Nat → Nat → Int32} {x1 : Int32} {x2 : Int32} {o3 : Nat → Int64} {r1} {r3} (e1 : fL_fate N I0 M0 x1 x2 o3 = some r1) (e3 : fX12_fate N I1 L1 M1 x1 x2 = some r3) (k0 : KX11 I0 M0) (k1 : KX12 I1 M1) (hr : RQ I0 M0 I1 M1) : RQ r1.2.1 r1.2.2.1 r3.2.1 r3.2.2.2 := by
  have f3 := fr_fX12_fate e3
  have f1 := fr_fL_fate e1
  have g1 := gr_fL_fate e1
  exact ⟨⟨hr.1.1.cg (f1.1 0 (by decide)) (f3.1 3 (by decide)) (f1.2 0 (by decide)) (f3.2 8 (by decide)), hr.1.2.1.cg (f1.2 13 (by decide)) (f3.2 7 (by decide)), hr.1.2.2.cg (f1.1 9 (by decide)) (f1.1 10 (by decide)) (fun k h1 h2 => f1.2 k ((by decide : ∀ k, k < 7 → 1 ≤ k → ¬ k ∈ fwM_L_fate) k h1 h2)) (f3.1 1 (by decide)) (f3.1 2 (by decide)) (fun k h1 => f3.2 k ((by decide : ∀ k, k < 7 → ¬ k ∈ fwM_X12_fate) k h1))⟩, (hr.2.1).cg (g1.2 23 (by decide)) (g1.2 24 (by decide)) (f3.2 27 (by decide)) (f3.2 28 (by decide)), trivial⟩
theorem rq_fates {N : Nat} (hN : 3000000000 ≤ N) {I0 : Nat → Int32} {M0 : Nat → Nat → Int32} {I1 : Nat → Int32} {L1 : Int64} {M1 : Nat → Nat → Int32} {x1 : Int32} {o2 : Nat → Int64} {r1} {r3} (e1 : fL_fates N I0 M0 x1 o2 = some r1) (e3 : fX12_fates N I1 L1 M1 x1 = some r3) (k0 : KX11 I0 M0) (k1 : KX12 I1 M1) (hr : RQ I0 M0 I1 M1) : RQ r1.2.1 r1.2.2.1 r3.2.1 r3.2.2.2 := by
  have f3 := fr_fX12_fates e3
  have f1 := fr_fL_fates e1
  have g1 := gr_fL_fates e1
  exact ⟨⟨hr.1.1.cg (f1.1 0 (by decide)) (f3.1 3 (by decide)) (f1.2 0 (by decide)) (f3.2 8 (by decide)), hr.1.2.1.cg (f1.2 13 (by decide)) (f3.2 7 (by decide)), hr.1.2.2.cg (f1.1 9 (by decide)) (f1.1 10 (by decide)) (fun k h1 h2 => f1.2 k ((by decide : ∀ k, k < 7 → 1 ≤ k → ¬ k ∈ fwM_L_fates) k h1 h2)) (f3.1 1 (by decide)) (f3.1 2 (by decide)) (fun k h1 => f3.2 k ((by decide : ∀ k, k < 7 → ¬ k ∈ fwM_X12_fates) k h1))⟩, (hr.2.1).cg (g1.2 23 (by decide)) (g1.2 24 (by decide)) (f3.2 27 (by decide)) (f3.2 28 (by decide)), trivial⟩
theorem rq_hits {N : Nat} (hN : 3000000000 ≤ N) {I0 : Nat → Int32} {M0 : Nat → Nat → Int32} {I1 : Nat → Int32} {L1 : Int64} {M1 : Nat → Nat → Int32} {x1 : Int32} {x2 : Int32} {o3 : Nat → Int64} {r1} {r3} (e1 : fL_hits N I0 M0 x1 x2 o3 = some r1) (e3 : fX12_hits N I1 L1 M1 x1 x2 = some r3) (k0 : KX11 I0 M0) (k1 : KX12 I1 M1) (hr : RQ I0 M0 I1 M1) : RQ r1.2.1 r1.2.2.1 r3.2.1 r3.2.2.2 := by
  have f3 := fr_fX12_hits e3
  have f1 := fr_fL_hits e1
  have g1 := gr_fL_hits e1
  exact ⟨⟨hr.1.1.cg (f1.1 0 (by decide)) (f3.1 3 (by decide)) (f1.2 0 (by decide)) (f3.2 8 (by decide)), hr.1.2.1.cg (f1.2 13 (by decide)) (f3.2 7 (by decide)), hr.1.2.2.cg (f1.1 9 (by decide)) (f1.1 10 (by decide)) (fun k h1 h2 => f1.2 k ((by decide : ∀ k, k < 7 → 1 ≤ k → ¬ k ∈ fwM_L_hits) k h1 h2)) (f3.1 1 (by decide)) (f3.1 2 (by decide)) (fun k h1 => f3.2 k ((by decide : ∀ k, k < 7 → ¬ k ∈ fwM_X12_hits) k h1))⟩, (hr.2.1).cg (g1.2 23 (by decide)) (g1.2 24 (by decide)) (f3.2 27 (by decide)) (f3.2 28 (by decide)), trivial⟩

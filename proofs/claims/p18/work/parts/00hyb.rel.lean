/-! CLIMBS and their PLACES, of both -/
theorem psm_sm {f : Nat → Int32} {o : Nat} : ∀ n, psm f o n = sm f o n := by
  intro n
  induction n with
  | zero => rfl
  | succ n ih =>
    show psm f o n + (f (o + n)).toInt = sm f o n + (f (o + n)).toInt
    rw [ih]
/-- a told CLIMATE of both -/
def CL (m5 k4 : Nat → Int32) (c : Nat) : Prop := c < 7 ∧ (∀ s : Nat, s ≤ 12 → (m5 (13 * c + s)).toInt = psm k4 (12 * c) s) ∧ (∀ z : Nat, z < 12 → 1 ≤ (k4 (12 * c + z)).toInt ∧ (k4 (12 * c + z)).toInt ≤ 3600) ∧ psm k4 (12 * c) 12 = 3600
theorem CL.of {I J : Nat → Int32} {M K : Nat → Nat → Int32} (ht : HT I M J K) (k1 : RS (J 1) (K 4)) {c : Nat} (hc : (c : Int) < (J 1).toInt) : CL (M 5) (K 4) c := by
  obtain ⟨h1, h2, h3, h4, h5, h6, h7⟩ := ht
  have rv := k1 c hc
  exact ⟨by omega, h6.2 c hc, rv.1, by rw [psm_sm]; exact rv.2⟩
theorem CL.mono {m5 k4 : Nat → Int32} {c : Nat} (h : CL m5 k4 c) : ∀ d s : Nat, s + d ≤ 12 → psm k4 (12 * c) s + (d : Int) ≤ psm k4 (12 * c) (s + d) := by
  intro d
  induction d with
  | zero => intro s hs; simp
  | succ d ih =>
    intro s hs
    have a := ih s (by omega)
    have b := (h.2.2.1 (s + d) (by omega)).1
    show _ ≤ psm k4 (12 * c) (s + d) + (k4 (12 * c + (s + d))).toInt
    omega
theorem CL.rg {m5 k4 : Nat → Int32} {c : Nat} (h : CL m5 k4 c) {s : Nat} (hs : s ≤ 12) : (s : Int) ≤ psm k4 (12 * c) s ∧ psm k4 (12 * c) s ≤ 3600 - (12 - (s : Int)) := by
  have a := h.mono s 0 (by omega)
  have b := h.mono (12 - s) s (by omega)
  rw [Nat.zero_add] at a
  rw [show s + (12 - s) = 12 by omega, h.2.2.2] at b
  have z : psm k4 (12 * c) 0 = 0 := rfl
  omega
theorem i13 {x : Int32} {c s : Nat} (hx : x.toInt = (c : Int)) (hc : c < 7) {y : Int32} (hy : y.toInt = (s : Int)) (hs : s ≤ 13) : ((13 : Int32) * x + y).toInt = ((13 * c + s : Nat) : Int) ∧ ((13 : Int32) * x + y).toNatClampNeg = 13 * c + s ∧ ((13 : Int32) * x + y + 1).toNatClampNeg = 13 * c + (s + 1) := by
  have n13 : (13 : Int32).toInt = 13 := by decide
  have n1 : (1 : Int32).toInt = 1 := by decide
  have x1 := ia_mul 13 13 n13 x (by omega) (by omega)
  have x2 := ia_add ((13 : Int32) * x) y (by omega) (by omega)
  have x3 := ia_add ((13 : Int32) * x + y) 1 (by omega) (by omega)
  rw [cl32, cl32]
  omega
theorem i12 {x : Int32} {c s : Nat} (hx : x.toInt = (c : Int)) (hc : c < 7) {y : Int32} (hy : y.toInt = (s : Int)) (hs : s ≤ 13) : ((12 : Int32) * x + y).toNatClampNeg = 12 * c + s := by
  have n12 : (12 : Int32).toInt = 12 := by decide
  have x1 := ia_mul 12 12 n12 x (by omega) (by omega)
  have x2 := ia_add ((12 : Int32) * x) y (by omega) (by omega)
  rw [cl32]
  omega
theorem q1800 {p : Int32} (hp : 0 ≤ p.toInt ∧ p.toInt ≤ 21599) : ∃ q : Nat, q ≤ 11 ∧ (p / 1800).toInt = (q : Int) ∧ (p - p / 1800 * 1800).toInt = p.toInt % 1800 ∧ p.toInt / 1800 = (q : Int) := by
  have n : (1800 : Int32).toInt = 1800 := by decide
  have a := ia_div p 1800 1800 n (by omega) hp.1
  have b := ia_rem p 1800 1800 n (by omega) hp.1
  exact ⟨(p.toInt / 1800).toNat, by omega, by omega, b, by omega⟩
theorem cb11 {N : Nat} {I : Nat → Int32} {m : Nat → Nat → Int32} {k4 : Nat → Int32} {x p r : Int32} {c : Nat} (h : CL (m 0) k4 c) (hx : x.toInt = (c : Int)) (hp : 0 ≤ p.toInt ∧ p.toInt ≤ 21599) (g : fX2_climbOf N I m x p = some r) : r.toInt = 1800 * psm k4 (12 * c) (p.toInt / 1800).toNat + (k4 (12 * c + (p.toInt / 1800).toNat)).toInt * (p.toInt % 1800) := by
  obtain ⟨q, hq, e1, e2, e3⟩ := q1800 hp
  have eq : (p.toInt / 1800).toNat = q := by omega
  unfold fX2_climbOf at g
  obtain ⟨v1, f1, g⟩ := wb_v g
  have ev1 : v1.toInt = (q : Int) := by rw [f1]; exact e1
  obtain ⟨-, g⟩ := wb_n g
  obtain ⟨v2, f2, g⟩ := wb_v g
  obtain ⟨-, g⟩ := wb_n g
  obtain ⟨v3, f3, g⟩ := wb_v g
  have g := Option.some.inj g
  have ii := i13 hx h.1 ev1 (by omega)
  rw [ii.2.1] at f2
  rw [ii.2.2] at f3
  have t2 := h.2.1 q (by omega)
  have t3 := h.2.1 (q + 1) (by omega)
  have t4 : psm k4 (12 * c) (q + 1) = psm k4 (12 * c) q + (k4 (12 * c + q)).toInt := rfl
  have r1 := h.rg (s := q) (by omega)
  have r2 := h.rg (s := q + 1) (by omega)
  have r3 := h.2.2.1 q (by omega)
  rw [← f2] at t2
  have d := ia_sub (m 0 (13 * c + (q + 1))) v2 (by omega) (by omega)
  rw [← f3] at d
  have tv3 : v3.toInt = (k4 (12 * c + q)).toInt := by omega
  have n18 : (1800 : Int32).toInt = 1800 := by decide
  have m1 := ia_mul 1800 1800 n18 v2 (by omega) (by omega)
  have pr0 : 0 ≤ v3.toInt * (p.toInt % 1800) := Int.mul_nonneg (by omega) (by omega)
  have pr1 : v3.toInt * (p.toInt % 1800) ≤ 3600 * 1799 := Int.mul_le_mul (by omega) (by omega) (by omega) (by omega)
  have m2 : (v3 * (p - p / 1800 * 1800)).toInt = v3.toInt * (p.toInt % 1800) := by
    rw [Int32.toInt_mul, e2]
    exact Int.bmod_eq_of_le (by omega) (by omega)
  have s1 := ia_add ((1800 : Int32) * v2) (v3 * (p - p / 1800 * 1800)) (by omega) (by omega)
  rw [← g, s1, m1, m2, tv3, t2, eq]
theorem cb_rg {m5 k4 : Nat → Int32} {c : Nat} (h : CL m5 k4 c) {p : Int} (hp : 0 ≤ p ∧ p ≤ 21599) : 0 ≤ 1800 * psm k4 (12 * c) (p / 1800).toNat + (k4 (12 * c + (p / 1800).toNat)).toInt * (p % 1800) ∧ 1800 * psm k4 (12 * c) (p / 1800).toNat + (k4 (12 * c + (p / 1800).toNat)).toInt * (p % 1800) < 6480000 := by
  generalize hq : (p / 1800).toNat = q
  have hq1 : q ≤ 11 := by omega
  have r1 := h.rg (s := q) (by omega)
  have r2 := h.rg (s := q + 1) (by omega)
  have t4 : psm k4 (12 * c) (q + 1) = psm k4 (12 * c) q + (k4 (12 * c + q)).toInt := rfl
  have r3 := h.2.2.1 q (by omega)
  have a : 0 ≤ (k4 (12 * c + q)).toInt * (p % 1800) := Int.mul_nonneg (by omega) (by omega)
  have b : (k4 (12 * c + q)).toInt * (p % 1800) ≤ (k4 (12 * c + q)).toInt * 1799 := Int.mul_le_mul_of_nonneg_left (by omega) (by omega)
  omega
theorem cb12_l {N : Nat} {J : Nat → Int32} {L : Int64} {K : Nat → Nat → Int32} {m5 : Nat → Int32} {x p : Int32} {c : Nat} (h : CL m5 (K 4) c) (hx : x.toInt = (c : Int)) (hp : 0 ≤ p.toInt ∧ p.toInt ≤ 21599) : ∀ (fu y : Nat) (v r : Int32), fX12_climbOf_L5 N J L K x p fu v (nI y) = some r → y ≤ (p.toInt / 1800).toNat → v.toInt = 1800 * psm (K 4) (12 * c) y → r.toInt = 1800 * psm (K 4) (12 * c) (p.toInt / 1800).toNat + (K 4 (12 * c + (p.toInt / 1800).toNat)).toInt * (p.toInt % 1800) := by
  obtain ⟨q, hq, e1, e2, e3⟩ := q1800 hp
  have eq : (p.toInt / 1800).toNat = q := by omega
  rw [eq]
  have rr := cb_rg h hp
  rw [eq] at rr
  intro fu
  induction fu with
  | zero => intro y v r g; cases (show none = some r from g)
  | succ fu ih =>
    intro y v r g hy hv
    rw [fX12_climbOf_L5.eq_2] at g
    have ty : (nI y).toInt = (y : Int) := nI_toInt (by omega)
    have r1 := h.rg (s := y) (by omega)
    rcases ifr g with ⟨d, g⟩ | ⟨d, g⟩
    · have d := (le32 e1 ty).mp d
      have yq : y = q := by omega
      obtain ⟨-, g⟩ := wb_n g
      have g := Option.some.inj g
      rw [i12 hx h.1 e1 (by omega)] at g
      have r3 := h.2.2.1 q (by omega)
      have pr0 : 0 ≤ (K 4 (12 * c + q)).toInt * (p.toInt % 1800) := Int.mul_nonneg (by omega) (by omega)
      have pr1 : (K 4 (12 * c + q)).toInt * (p.toInt % 1800) ≤ 3600 * 1799 := Int.mul_le_mul (by omega) (by omega) (by omega) (by omega)
      have m2 : (K 4 (12 * c + q) * (p - p / 1800 * 1800)).toInt = (K 4 (12 * c + q)).toInt * (p.toInt % 1800) := by
        rw [Int32.toInt_mul, e2]
        exact Int.bmod_eq_of_le (by omega) (by omega)
      rw [yq] at hv
      have s1 := ia_add v (K 4 (12 * c + q) * (p - p / 1800 * 1800)) (by omega) (by omega)
      rw [← g, s1, m2, hv]
    · have d : ¬ _ := fun z => d ((le32 e1 ty).mpr z)
      obtain ⟨-, g⟩ := wb_n g
      obtain ⟨v1, f1, g⟩ := wb_v g
      obtain ⟨v2, f2, g⟩ := wb_v g
      rw [i12 hx h.1 ty (by omega)] at f1
      rw [f2, nI_1] at g
      have r3 := h.2.2.1 y (by omega)
      have n18 : (1800 : Int32).toInt = 1800 := by decide
      have m1 := ia_mul 1800 1800 n18 (K 4 (12 * c + y)) (by omega) (by omega)
      have s1 := ia_add v ((1800 : Int32) * K 4 (12 * c + y)) (by omega) (by omega)
      refine ih (y + 1) v1 r g (by omega) ?_
      rw [f1, s1, m1, hv]
      show _ = 1800 * (psm (K 4) (12 * c) y + (K 4 (12 * c + y)).toInt)
      omega
/-- CLIMBS alike -/
theorem cb_eq {N N2 : Nat} {I J : Nat → Int32} {L : Int64} {m K : Nat → Nat → Int32} {x p r s : Int32} {c : Nat} (h : CL (m 0) (K 4) c) (hx : x.toInt = (c : Int)) (hp : 0 ≤ p.toInt ∧ p.toInt ≤ 21599) (f : fX2_climbOf N I m x p = some r) (g : fX12_climbOf N2 J L K x p = some s) : r = s ∧ 0 ≤ r.toInt ∧ r.toInt < 6480000 := by
  have a := cb11 h hx hp f
  have b := cb12_l h hx hp N2 0 0 s g (Nat.zero_le _) (show (0 : Int32).toInt = 1800 * 0 by decide)
  have rr := cb_rg h hp
  exact ⟨t32 (by rw [a, b]), by rw [a]; exact rr.1, by rw [a]; exact rr.2⟩
theorem po_l {N N2 : Nat} {I J : Nat → Int32} {L : Int64} {m K : Nat → Nat → Int32} {x cl zz : Int32} {c : Nat} (h : CL (m 0) (K 4) c) (hx : x.toInt = (c : Int)) (hcl : cl.toInt < 6480000) : ∀ (fu fv s : Nat) (left a b : Int32), fX2_placeOf_L5 N I m x cl fu (nI s) (nI (s + 1)) = some a → fX12_placeOf_L5 N2 J L K x zz fv left (nI s) = some b → s ≤ 11 → left.toInt = cl.toInt - 1800 * psm (K 4) (12 * c) s → 0 ≤ left.toInt → a = b ∧ 0 ≤ a.toInt ∧ a.toInt < 21600 := by
  intro fu
  induction fu with
  | zero => intro fv s left a b f; cases (show none = some a from f)
  | succ fu ih =>
    intro fv s left a b f g hs hl h0
    cases fv with
    | zero => cases (show none = some b from g)
    | succ fv =>
      rw [fX2_placeOf_L5.eq_2] at f
      rw [fX12_placeOf_L5.eq_2] at g
      have ts : (nI s).toInt = (s : Int) := nI_toInt (by omega)
      have ts1 : (nI (s + 1)).toInt = ((s + 1 : Nat) : Int) := nI_toInt (by omega)
      have r1 := h.rg (s := s) (by omega)
      have r2 := h.rg (s := s + 1) (by omega)
      have r3 := h.2.2.1 s (by omega)
      have t4 : psm (K 4) (12 * c) (s + 1) = psm (K 4) (12 * c) s + (K 4 (12 * c + s)).toInt := rfl
      have n18 : (1800 : Int32).toInt = 1800 := by decide
      have m1 := ia_mul 1800 1800 n18 (K 4 (12 * c + s)) (by omega) (by omega)
      obtain ⟨-, g⟩ := wb_n g
      rw [i12 hx h.1 ts (by omega)] at g
      have fin : left.toInt < 1800 * (K 4 (12 * c + s)).toInt → fX2_placeOf_J41 N I m x cl (nI s) = some a → a = b ∧ 0 ≤ a.toInt ∧ a.toInt < 21600 := by
        intro hlt f
        have g := wb_t ((lt32 rfl m1).mpr hlt) g
        obtain ⟨-, g⟩ := wb_n g
        obtain ⟨-, g⟩ := wb_n g
        have g := Option.some.inj g
        unfold fX2_placeOf_J41 at f
        obtain ⟨-, f⟩ := wb_n f
        obtain ⟨v1, f1, f⟩ := wb_v f
        obtain ⟨-, f⟩ := wb_n f
        obtain ⟨v2, f2, f⟩ := wb_v f
        have ii := i13 hx h.1 ts (by omega)
        rw [ii.2.1] at f1
        rw [ii.2.2] at f2
        have u1 := h.2.1 s (by omega)
        have u2 := h.2.1 (s + 1) (by omega)
        rw [← f1] at u1
        have d := ia_sub (m 0 (13 * c + (s + 1))) v1 (by omega) (by omega)
        rw [← f2] at d
        have e2 : v2 = K 4 (12 * c + s) := t32 (by omega)
        have f := wb_t ((le32 (by decide : (1 : Int32).toInt = 1) rfl).mpr (by rw [e2]; omega)) f
        obtain ⟨-, f⟩ := wb_n f
        have f := Option.some.inj f
        have m3 := ia_mul 1800 1800 n18 v1 (by omega) (by omega)
        have s3 := ia_sub cl ((1800 : Int32) * v1) (by omega) (by omega)
        have e3 : cl - (1800 : Int32) * v1 = left := t32 (by omega)
        rw [e3, e2] at f
        refine ⟨f.symm.trans g, ?_⟩
        have dv := ia_div left (K 4 (12 * c + s)) _ rfl (by omega) h0
        have d0 := Int.ediv_nonneg h0 (by omega : 0 ≤ (K 4 (12 * c + s)).toInt)
        have d1 : left.toInt / (K 4 (12 * c + s)).toInt < 1800 := Int.ediv_lt_of_lt_mul (by omega) (by omega)
        have m4 := ia_mul 1800 1800 n18 (nI s) (by omega) (by omega)
        have s4 := ia_add ((1800 : Int32) * nI s) (left / K 4 (12 * c + s)) (by omega) (by omega)
        rw [← f, s4, m4, dv, ts]
        omega
      rcases ifr f with ⟨d, f⟩ | ⟨d, f⟩
      · have d := (le32 (by decide : (12 : Int32).toInt = 12) ts1).mp d
        have s11 : s = 11 := by omega
        refine fin ?_ f
        have e12 := h.2.2.2
        rw [s11] at t4 hl ⊢
        have t4 : psm (K 4) (12 * c) 12 = psm (K 4) (12 * c) 11 + (K 4 (12 * c + 11)).toInt := t4
        omega
      · have d : ¬ _ := fun z => d ((le32 (by decide : (12 : Int32).toInt = 12) ts1).mpr z)
        obtain ⟨-, f⟩ := wb_n f
        rw [(i13 hx h.1 ts1 (by omega)).2.1] at f
        have u2 := h.2.1 (s + 1) (by omega)
        have m5 := ia_mul 1800 1800 n18 (m 0 (13 * c + (s + 1))) (by omega) (by omega)
        rcases ifr f with ⟨d2, f⟩ | ⟨d2, f⟩
        · have d2 := (lt32 rfl m5).mp d2
          exact fin (by omega) f
        · have d2 : ¬ _ := fun z => d2 ((lt32 rfl m5).mpr z)
          have g := wb_f (fun z => by
            have := (lt32 rfl m1).mp z
            omega) g
          obtain ⟨-, g⟩ := wb_n g
          obtain ⟨u, eu, g⟩ := wb_v g
          obtain ⟨w, ew, g⟩ := wb_v g
          rw [ew, nI_1] at g
          have s5 := ia_sub left ((1800 : Int32) * K 4 (12 * c + s)) (by omega) (by omega)
          obtain ⟨v3, ev3, f⟩ := wb_v f
          rw [ev3, nI_1] at f
          refine ih fv (s + 1) u a b f g (by omega) ?_ ?_
          · rw [eu, s5, m1]
            omega
          · rw [eu, s5, m1]
            omega
/-- PLACES of a CLIMB alike -/
theorem po_eq {N N2 : Nat} {I J : Nat → Int32} {L : Int64} {m K : Nat → Nat → Int32} {x cl a b : Int32} {c : Nat} (h : CL (m 0) (K 4) c) (hx : x.toInt = (c : Int)) (hcl : 0 ≤ cl.toInt ∧ cl.toInt < 6480000) (f : fX2_placeOf N I m x cl = some a) (g : fX12_placeOf N2 J L K x cl = some b) : a = b ∧ 0 ≤ a.toInt ∧ a.toInt < 21600 := by
  unfold fX2_placeOf at f
  unfold fX12_placeOf at g
  exact po_l h hx hcl.2 N N2 0 cl a b f g (by omega) (by show cl.toInt = cl.toInt - 1800 * 0; omega) hcl.1
theorem ri_eq {N N2 : Nat} {I J : Nat → Int32} {L : Int64} {m K : Nat → Nat → Int32} {x p t a b : Int32} {c : Nat} (h : CL (m 0) (K 4) c) (hx : x.toInt = (c : Int)) (hp : 0 ≤ p.toInt ∧ p.toInt ≤ 21599) (ht : 0 ≤ t.toInt ∧ t.toInt ≤ 359) (f : fX2_risingAt N I m x p t = some a) (g : fX12_riseOf N2 J L K x p t = some b) : a = b ∧ 0 ≤ a.toInt ∧ a.toInt < 21600 := by
  unfold fX2_risingAt at f
  unfold fX12_riseOf at g
  obtain ⟨r1, f1, f⟩ := wb_b f
  obtain ⟨s1, g1, g⟩ := wb_b g
  obtain ⟨e, b0, b1⟩ := cb_eq h hx hp f1 g1
  rw [← e] at g
  obtain ⟨r2, f2, f⟩ := wb_b f
  obtain ⟨s2, g2, g⟩ := wb_b g
  have f := Option.some.inj f
  have g := Option.some.inj g
  have n18 : (18000 : Int32).toInt = 18000 := by decide
  have m1 := ia_mul 18000 18000 n18 t (by omega) (by omega)
  have a1 := ia_add r1 ((18000 : Int32) * t) (by omega) (by omega)
  have rm := ia_rem (r1 + (18000 : Int32) * t) 6480000 6480000 (by decide) (by omega) (by omega)
  have h0 := Int.emod_nonneg (r1 + (18000 : Int32) * t).toInt (by omega : (6480000 : Int) ≠ 0)
  have h1 := Int.emod_lt_of_pos (r1 + (18000 : Int32) * t).toInt (by omega : (0 : Int) < 6480000)
  obtain ⟨e2, q⟩ := po_eq h hx ⟨by omega, by omega⟩ f2 g2
  rw [← f, ← g, e2]
  rw [e2] at q
  exact ⟨rfl, q⟩
theorem xs32 {x y : Int32} (hy : 0 ≤ y.toInt) : (0 ≤ (x ^^^ y).toInt) ↔ 0 ≤ x.toInt := by
  have m : ∀ z : Int32, z.toBitVec.msb = decide (z.toInt < 0) := fun z => BitVec.msb_eq_toInt
  have e : (x ^^^ y).toBitVec.msb = (x.toBitVec.msb ^^ y.toBitVec.msb) := by
    rw [Int32.toBitVec_xor, BitVec.msb_xor]
  rw [m, m, m, decide_eq_false (by omega : ¬ y.toInt < 0), Bool.xor_false] at e
  have e2 : ((x ^^^ y).toInt < 0) ↔ x.toInt < 0 := by
    have := congrArg (· = true) e
    simp only [decide_eq_true_eq] at this
    rw [this]
  omega
theorem fmd32 {N : Nat} {x y r : Int32} {k : Int} (hk : y.toInt = k) (hy : 0 < k) (h : fJ9_floorMod_7cf53 N x y = some r) : r.toInt = x.toInt % k := by
  unfold fJ9_floorMod_7cf53 at h
  obtain ⟨-, h⟩ := wb_n h
  obtain ⟨v, ev, h⟩ := wb_v h
  have n0 : (0 : Int32).toInt = 0 := by decide
  have ylt := Int32.toInt_lt y
  rcases Int.lt_or_le x.toInt 0 with c | c
  · have nd := ndv c hy
    have h3 := Int.emod_nonneg (-x.toInt) (by omega : k ≠ 0)
    have h4 := Int.emod_lt_of_pos (-x.toInt) hy
    have tv : v.toInt = -((-x.toInt) % k) := by
      have lo := Int32.le_toInt x
      have e : x.toInt.tdiv k = -((-x.toInt) / k) := by
        have e2 : x.toInt = -(-x.toInt) := by omega
        rw [e2, Int.neg_tdiv, Int.tdiv_eq_ediv_of_nonneg (by omega)]
        rw [← e2]
      have h5 : 0 ≤ (-x.toInt) / k := Int.ediv_nonneg (by omega) (by omega)
      have h6 : (-x.toInt) / k ≤ -x.toInt := Int.ediv_le_self _ (by omega)
      have hd : (x / y).toInt = -((-x.toInt) / k) := by
        rw [Int32.toInt_div, hk, e]
        exact Int.bmod_eq_of_le (by omega) (by omega)
      have h7 := Int.mul_ediv_add_emod (-x.toInt) k
      have h8 : -((-x.toInt) / k) * k = -(k * ((-x.toInt) / k)) := by rw [Int.neg_mul, Int.mul_comm]
      have h11 : 0 ≤ k * ((-x.toInt) / k) := Int.mul_nonneg (by omega) h5
      have hm : (x / y * y).toInt = -((-x.toInt) / k) * k := by
        rw [Int32.toInt_mul, hd, hk]
        exact Int.bmod_eq_of_le (by omega) (by omega)
      rw [ev, Int32.toInt_sub, hm]
      have e3 : (x.toInt - -((-x.toInt) / k) * k).bmod (2 ^ 32) = x.toInt - -((-x.toInt) / k) * k := Int.bmod_eq_of_le (by omega) (by omega)
      rw [e3]
      omega
    have h := wb_f (fun z => by
      have z := (le32 n0 rfl).mp z
      have z := (xs32 (y := y) (by omega)).mp z
      omega) h
    rcases ifr h with ⟨c2, h⟩ | ⟨c2, h⟩
    · have c2 := (eq32 rfl n0).mp c2
      have h := Option.some.inj h
      rw [← h, (nd.1 (by omega)).2]
      omega
    · have c2 : ¬ _ := fun z => c2 ((eq32 rfl n0).mpr z)
      have h := Option.some.inj h
      rw [← h, ia_add _ _ (by omega) (by omega), tv, hk, (nd.2 (by omega)).2]
      omega
  · have h := wb_t ((le32 n0 rfl).mpr ((xs32 (y := y) (by omega)).mpr c)) h
    have h := Option.some.inj h
    rw [← h, ev]
    exact ia_rem x y k hk hy c
theorem mi_eq {N N2 : Nat} {I J : Nat → Int32} {L : Int64} {m K : Nat → Nat → Int32} {x p a b : Int32} {c : Nat} (h : CL (m 0) (K 4) c) (h00 : CL (m 0) (K 4) 0) (hx : x.toInt = (c : Int)) (hp : 0 ≤ p.toInt ∧ p.toInt ≤ 21599) (f : fX2_middleOf N I m x p = some a) (g : fX12_middleOf N2 J L K x p = some b) : a = b ∧ 0 ≤ a.toInt ∧ a.toInt < 21600 := by
  unfold fX2_middleOf at f
  unfold fX12_middleOf at g
  obtain ⟨r1, f1, f⟩ := wb_b f
  obtain ⟨s1, g1, g⟩ := wb_b g
  obtain ⟨e, b0, b1⟩ := cb_eq h hx hp f1 g1
  rw [← e] at g
  obtain ⟨r2, f2, f⟩ := wb_b f
  obtain ⟨r3, f3, f⟩ := wb_b f
  obtain ⟨s2, g2, g⟩ := wb_b g
  have f := Option.some.inj f
  have g := Option.some.inj g
  have n1 : (1620000 : Int32).toInt = 1620000 := by decide
  have n2 : (6480000 : Int32).toInt = 6480000 := by decide
  have x1 := ia_sub r1 1620000 (by rw [n1]; omega) (by rw [n1]; omega)
  rw [n1] at x1
  have x2 := fmd32 n2 (by omega) f2
  rw [x1] at x2
  clear x1
  have x3 := ia_add r1 6480000 (by rw [n2]; omega) (by rw [n2]; omega)
  rw [n2] at x3
  generalize r1 + 6480000 = A at x3 g2
  have x4 := ia_sub A 1620000 (by rw [n1]; omega) (by rw [n1]; omega)
  rw [n1] at x4
  generalize A - 1620000 = B at x4 g2
  have x5 := ia_rem B 6480000 6480000 n2 (by omega) (by omega)
  generalize B - B / 6480000 * 6480000 = C at x5 g2
  have er : r2 = C := t32 (by rw [x2, x5, x4, x3]; omega)
  rw [← er] at g2
  have hr0 := Int.emod_nonneg (r1.toInt - 1620000) (by omega : (6480000 : Int) ≠ 0)
  have hr1 := Int.emod_lt_of_pos (r1.toInt - 1620000) (by omega : (0 : Int) < 6480000)
  obtain ⟨e2, q⟩ := po_eq h00 (show (0 : Int32).toInt = ((0 : Nat) : Int) by decide) ⟨by rw [x2]; exact hr0, by rw [x2]; exact hr1⟩ f3 g2
  rw [← f, ← g, e2]
  rw [e2] at q
  exact ⟨rfl, q⟩

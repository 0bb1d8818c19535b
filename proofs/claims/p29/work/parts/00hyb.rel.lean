/-! CLIMBS and their PLACES, of both -/
theorem psm_sm {f : Nat → Int32} {o : Nat} : ∀ n, psm f o n = sm f o n := by
  intro n
  induction n with
  | zero => rfl
  | succ n ih =>
    show psm f o n + (f (o + n)).toInt = sm f o n + (f (o + n)).toInt
    rw [ih]
/-- a told CLIMATE of both -/
def CL (m5 k4 : Nat → Int32) (c : Nat) : Prop := c < 7 ∧ (∀ s : Nat, s ≤ 12 → (m5 (13 * c + s)).toInt = psm k4 (12 * c) s) ∧ (∀ z : Nat, z < 12 → 1 ≤ (k4 (12 * c + z)).toInt ∧ (k4 (12 * c + z)).toInt ≤ 3600) ∧ psm k4 (12 * c) 12 = 3600
theorem CL.of {I J : Nat → Int32} {M K : Nat → Nat → Int32} (ht : HT I M J K) (k1 : RS (J 1) (K 4)) {c : Nat} (hc : (c : Int) < (J 1).toInt) : CL (M 5) (K 4) c := by
  obtain ⟨h1, h2, h3, h4, h5, h6, h7⟩ := ht
  have rv := k1 c hc
  exact ⟨by omega, h6.2 c hc, rv.1, by rw [psm_sm]; exact rv.2⟩
theorem CL.mono {m5 k4 : Nat → Int32} {c : Nat} (h : CL m5 k4 c) : ∀ d s : Nat, s + d ≤ 12 → psm k4 (12 * c) s + (d : Int) ≤ psm k4 (12 * c) (s + d) := by
  intro d
  induction d with
  | zero => intro s hs; simp
  | succ d ih =>
    intro s hs
    have a := ih s (by omega)
    have b := (h.2.2.1 (s + d) (by omega)).1
    show _ ≤ psm k4 (12 * c) (s + d) + (k4 (12 * c + (s + d))).toInt
    omega
theorem CL.rg {m5 k4 : Nat → Int32} {c : Nat} (h : CL m5 k4 c) {s : Nat} (hs : s ≤ 12) : (s : Int) ≤ psm k4 (12 * c) s ∧ psm k4 (12 * c) s ≤ 3600 - (12 - (s : Int)) := by
  have a := h.mono s 0 (by omega)
  have b := h.mono (12 - s) s (by omega)
  rw [Nat.zero_add] at a
  rw [show s + (12 - s) = 12 by omega, h.2.2.2] at b
  have z : psm k4 (12 * c) 0 = 0 := rfl
  omega
theorem i13 {x : Int32} {c s : Nat} (hx : x.toInt = (c : Int)) (hc : c < 7) {y : Int32} (hy : y.toInt = (s : Int)) (hs : s ≤ 13) : ((13 : Int32) * x + y).toInt = ((13 * c + s : Nat) : Int) ∧ ((13 : Int32) * x + y).toNatClampNeg = 13 * c + s ∧ ((13 : Int32) * x + y + 1).toNatClampNeg = 13 * c + (s + 1) := by
  have n13 : (13 : Int32).toInt = 13 := by decide
  have n1 : (1 : Int32).toInt = 1 := by decide
  have x1 := ia_mul 13 13 n13 x (by omega) (by omega)
  have x2 := ia_add ((13 : Int32) * x) y (by omega) (by omega)
  have x3 := ia_add ((13 : Int32) * x + y) 1 (by omega) (by omega)
  rw [cl32, cl32]
  omega
theorem i12 {x : Int32} {c s : Nat} (hx : x.toInt = (c : Int)) (hc : c < 7) {y : Int32} (hy : y.toInt = (s : Int)) (hs : s ≤ 13) : ((12 : Int32) * x + y).toNatClampNeg = 12 * c + s := by
  have n12 : (12 : Int32).toInt = 12 := by decide
  have x1 := ia_mul 12 12 n12 x (by omega) (by omega)
  have x2 := ia_add ((12 : Int32) * x) y (by omega) (by omega)
  rw [cl32]
  omega
theorem q1800 {p : Int32} (hp : 0 ≤ p.toInt ∧ p.toInt ≤ 21599) : ∃ q : Nat, q ≤ 11 ∧ (p / 1800).toInt = (q : Int) ∧ (p - p / 1800 * 1800).toInt = p.toInt % 1800 ∧ p.toInt / 1800 = (q : Int) := by
  have n : (1800 : Int32).toInt = 1800 := by decide
  have a := ia_div p 1800 1800 n (by omega) hp.1
  have b := ia_rem p 1800 1800 n (by omega) hp.1
  exact ⟨(p.toInt / 1800).toNat, by omega, by omega, b, by omega⟩
theorem cb11 {N : Nat} {I : Nat → Int32} {m : Nat → Nat → Int32} {k4 : Nat → Int32} {x p r : Int32} {c : Nat} (h : CL (m 0) k4 c) (hx : x.toInt = (c : Int)) (hp : 0 ≤ p.toInt ∧ p.toInt ≤ 21599) (g : fX2_climbOf N I m x p = some r) : r.toInt = 1800 * psm k4 (12 * c) (p.toInt / 1800).toNat + (k4 (12 * c + (p.toInt / 1800).toNat)).toInt * (p.toInt % 1800) := by
  obtain ⟨q, hq, e1, e2, e3⟩ := q1800 hp
  have eq : (p.toInt / 1800).toNat = q := by omega
  unfold fX2_climbOf at g
  obtain ⟨v1, f1, g⟩ := wb_v g
  have ev1 : v1.toInt = (q : Int) := by rw [f1]; exact e1
  obtain ⟨-, g⟩ := wb_n g
  obtain ⟨v2, f2, g⟩ := wb_v g
  obtain ⟨-, g⟩ := wb_n g
  obtain ⟨v3, f3, g⟩ := wb_v g
  have g := Option.some.inj g
  have ii := i13 hx h.1 ev1 (by omega)
  rw [ii.2.1] at f2
  rw [ii.2.2] at f3
  have t2 := h.2.1 q (by omega)
  have t3 := h.2.1 (q + 1) (by omega)
  have t4 : psm k4 (12 * c) (q + 1) = psm k4 (12 * c) q + (k4 (12 * c + q)).toInt := rfl
  have r1 := h.rg (s := q) (by omega)
  have r2 := h.rg (s := q + 1) (by omega)
  have r3 := h.2.2.1 q (by omega)
  rw [← f2] at t2
  have d := ia_sub (m 0 (13 * c + (q + 1))) v2 (by omega) (by omega)
  rw [← f3] at d
  have tv3 : v3.toInt = (k4 (12 * c + q)).toInt := by omega
  have n18 : (1800 : Int32).toInt = 1800 := by decide
  have m1 := ia_mul 1800 1800 n18 v2 (by omega) (by omega)
  have pr0 : 0 ≤ v3.toInt * (p.toInt % 1800) := Int.mul_nonneg (by omega) (by omega)
  have pr1 : v3.toInt * (p.toInt % 1800) ≤ 3600 * 1799 := Int.mul_le_mul (by omega) (by omega) (by omega) (by omega)
  have m2 : (v3 * (p - p / 1800 * 1800)).toInt = v3.toInt * (p.toInt % 1800) := by
    rw [Int32.toInt_mul, e2]
    exact Int.bmod_eq_of_le (by omega) (by omega)
  have s1 := ia_add ((1800 : Int32) * v2) (v3 * (p - p / 1800 * 1800)) (by omega) (by omega)
  rw [← g, s1, m1, m2, tv3, t2, eq]
theorem cb_rg {m5 k4 : Nat → Int32} {c : Nat} (h : CL m5 k4 c) {p : Int} (hp : 0 ≤ p ∧ p ≤ 21599) : 0 ≤ 1800 * psm k4 (12 * c) (p / 1800).toNat + (k4 (12 * c + (p / 1800).toNat)).toInt * (p % 1800) ∧ 1800 * psm k4 (12 * c) (p / 1800).toNat + (k4 (12 * c + (p / 1800).toNat)).toInt * (p % 1800) < 6480000 := by
  generalize hq : (p / 1800).toNat = q
  have hq1 : q ≤ 11 := by omega
  have r1 := h.rg (s := q) (by omega)
  have r2 := h.rg (s := q + 1) (by omega)
  have t4 : psm k4 (12 * c) (q + 1) = psm k4 (12 * c) q + (k4 (12 * c + q)).toInt := rfl
  have r3 := h.2.2.1 q (by omega)
  have a : 0 ≤ (k4 (12 * c + q)).toInt * (p % 1800) := Int.mul_nonneg (by omega) (by omega)
  have b : (k4 (12 * c + q)).toInt * (p % 1800) ≤ (k4 (12 * c + q)).toInt * 1799 := Int.mul_le_mul_of_nonneg_left (by omega) (by omega)
  omega
theorem cb12_l {N : Nat} {J : Nat → Int32} {L : Int64} {K : Nat → Nat → Int32} {m5 : Nat → Int32} {x p : Int32} {c : Nat} (h : CL m5 (K 4) c) (hx : x.toInt = (c : Int)) (hp : 0 ≤ p.toInt ∧ p.toInt ≤ 21599) : ∀ (fu y : Nat) (v r : Int32), fX12_climbOf_L5 N J L K x p fu v (nI y) = some r → y ≤ (p.toInt / 1800).toNat → v.toInt = 1800 * psm (K 4) (12 * c) y → r.toInt = 1800 * psm (K 4) (12 * c) (p.toInt / 1800).toNat + (K 4 (12 * c + (p.toInt / 1800).toNat)).toInt * (p.toInt % 1800) := by
  obtain ⟨q, hq, e1, e2, e3⟩ := q1800 hp
  have eq : (p.toInt / 1800).toNat = q := by omega
  rw [eq]
  have rr := cb_rg h hp
  rw [eq] at rr
  intro fu
  induction fu with
  | zero => intro y v r g; cases (show none = some r from g)
  | succ fu ih =>
    intro y v r g hy hv
    rw [fX12_climbOf_L5.eq_2] at g
    have ty : (nI y).toInt = (y : Int) := nI_toInt (by omega)
    have r1 := h.rg (s := y) (by omega)
    rcases ifr g with ⟨d, g⟩ | ⟨d, g⟩
    · have d := (le32 e1 ty).mp d
      have yq : y = q := by omega
      obtain ⟨-, g⟩ := wb_n g
      have g := Option.some.inj g
      rw [i12 hx h.1 e1 (by omega)] at g
      have r3 := h.2.2.1 q (by omega)
      have pr0 : 0 ≤ (K 4 (12 * c + q)).toInt * (p.toInt % 1800) := Int.mul_nonneg (by omega) (by omega)
      have pr1 : (K 4 (12 * c + q)).toInt * (p.toInt % 1800) ≤ 3600 * 1799 := Int.mul_le_mul (by omega) (by omega) (by omega) (by omega)
      have m2 : (K 4 (12 * c + q) * (p - p / 1800 * 1800)).toInt = (K 4 (12 * c + q)).toInt * (p.toInt % 1800) := by
        rw [Int32.toInt_mul, e2]
        exact Int.bmod_eq_of_le (by omega) (by omega)
      rw [yq] at hv
      have s1 := ia_add v (K 4 (12 * c + q) * (p - p / 1800 * 1800)) (by omega) (by omega)
      rw [← g, s1, m2, hv]
    · have d : ¬ _ := fun z => d ((le32 e1 ty).mpr z)
      obtain ⟨-, g⟩ := wb_n g
      obtain ⟨v1, f1, g⟩ := wb_v g
      obtain ⟨v2, f2, g⟩ := wb_v g
      rw [i12 hx h.1 ty (by omega)] at f1
      rw [f2, nI_1] at g
      have r3 := h.2.2.1 y (by omega)
      have n18 : (1800 : Int32).toInt = 1800 := by decide
      have m1 := ia_mul 1800 1800 n18 (K 4 (12 * c + y)) (by omega) (by omega)
      have s1 := ia_add v ((1800 : Int32) * K 4 (12 * c + y)) (by omega) (by omega)
      refine ih (y + 1) v1 r g (by omega) ?_
      rw [f1, s1, m1, hv]
      show _ = 1800 * (psm (K 4) (12 * c) y + (K 4 (12 * c + y)).toInt)
      omega
/-- CLIMBS alike -/
theorem cb_eq {N N2 : Nat} {I J : Nat → Int32} {L : Int64} {m K : Nat → Nat → Int32} {x p r s : Int32} {c : Nat} (h : CL (m 0) (K 4) c) (hx : x.toInt = (c : Int)) (hp : 0 ≤ p.toInt ∧ p.toInt ≤ 21599) (f : fX2_climbOf N I m x p = some r) (g : fX12_climbOf N2 J L K x p = some s) : r = s ∧ 0 ≤ r.toInt ∧ r.toInt < 6480000 := by
  have a := cb11 h hx hp f
  have b := cb12_l h hx hp N2 0 0 s g (Nat.zero_le _) (show (0 : Int32).toInt = 1800 * 0 by decide)
  have rr := cb_rg h hp
  exact ⟨t32 (by rw [a, b]), by rw [a]; exact rr.1, by rw [a]; exact rr.2⟩
theorem po_l {N N2 : Nat} {I J : Nat → Int32} {L : Int64} {m K : Nat → Nat → Int32} {x cl zz : Int32} {c : Nat} (h : CL (m 0) (K 4) c) (hx : x.toInt = (c : Int)) (hcl : cl.toInt < 6480000) : ∀ (fu fv s : Nat) (left a b : Int32), fX2_placeOf_L5 N I m x cl fu (nI s) (nI (s + 1)) = some a → fX12_placeOf_L5 N2 J L K x zz fv left (nI s) = some b → s ≤ 11 → left.toInt = cl.toInt - 1800 * psm (K 4) (12 * c) s → 0 ≤ left.toInt → a = b ∧ 0 ≤ a.toInt ∧ a.toInt < 21600 := by
  intro fu
  induction fu with
  | zero => intro fv s left a b f; cases (show none = some a from f)
  | succ fu ih =>
    intro fv s left a b f g hs hl h0
    cases fv with
    | zero => cases (show none = some b from g)
    | succ fv =>
      rw [fX2_placeOf_L5.eq_2] at f
      rw [fX12_placeOf_L5.eq_2] at g
      have ts : (nI s).toInt = (s : Int) := nI_toInt (by omega)
      have ts1 : (nI (s + 1)).toInt = ((s + 1 : Nat) : Int) := nI_toInt (by omega)
      have r1 := h.rg (s := s) (by omega)
      have r2 := h.rg (s := s + 1) (by omega)
      have r3 := h.2.2.1 s (by omega)
      have t4 : psm (K 4) (12 * c) (s + 1) = psm (K 4) (12 * c) s + (K 4 (12 * c + s)).toInt := rfl
      have n18 : (1800 : Int32).toInt = 1800 := by decide
      have m1 := ia_mul 1800 1800 n18 (K 4 (12 * c + s)) (by omega) (by omega)
      obtain ⟨-, g⟩ := wb_n g
      rw [i12 hx h.1 ts (by omega)] at g
      have fin : left.toInt < 1800 * (K 4 (12 * c + s)).toInt → fX2_placeOf_J41 N I m x cl (nI s) = some a → a = b ∧ 0 ≤ a.toInt ∧ a.toInt < 21600 := by
        intro hlt f
        have g := wb_t ((lt32 rfl m1).mpr hlt) g
        obtain ⟨-, g⟩ := wb_n g
        obtain ⟨-, g⟩ := wb_n g
        have g := Option.some.inj g
        unfold fX2_placeOf_J41 at f
        obtain ⟨-, f⟩ := wb_n f
        obtain ⟨v1, f1, f⟩ := wb_v f
        obtain ⟨-, f⟩ := wb_n f
        obtain ⟨v2, f2, f⟩ := wb_v f
        have ii := i13 hx h.1 ts (by omega)
        rw [ii.2.1] at f1
        rw [ii.2.2] at f2
        have u1 := h.2.1 s (by omega)
        have u2 := h.2.1 (s + 1) (by omega)
        rw [← f1] at u1
        have d := ia_sub (m 0 (13 * c + (s + 1))) v1 (by omega) (by omega)
        rw [← f2] at d
        have e2 : v2 = K 4 (12 * c + s) := t32 (by omega)
        have f := wb_t ((le32 (by decide : (1 : Int32).toInt = 1) rfl).mpr (by rw [e2]; omega)) f
        obtain ⟨-, f⟩ := wb_n f
        have f := Option.some.inj f
        have m3 := ia_mul 1800 1800 n18 v1 (by omega) (by omega)
        have s3 := ia_sub cl ((1800 : Int32) * v1) (by omega) (by omega)
        have e3 : cl - (1800 : Int32) * v1 = left := t32 (by omega)
        rw [e3, e2] at f
        refine ⟨f.symm.trans g, ?_⟩
        have dv := ia_div left (K 4 (12 * c + s)) _ rfl (by omega) h0
        have d0 := Int.ediv_nonneg h0 (by omega : 0 ≤ (K 4 (12 * c + s)).toInt)
        have d1 : left.toInt / (K 4 (12 * c + s)).toInt < 1800 := Int.ediv_lt_of_lt_mul (by omega) (by omega)
        have m4 := ia_mul 1800 1800 n18 (nI s) (by omega) (by omega)
        have s4 := ia_add ((1800 : Int32) * nI s) (left / K 4 (12 * c + s)) (by omega) (by omega)
        rw [← f, s4, m4, dv, ts]
        omega
      rcases ifr f with ⟨d, f⟩ | ⟨d, f⟩
      · have d := (le32 (by decide : (12 : Int32).toInt = 12) ts1).mp d
        have s11 : s = 11 := by omega
        refine fin ?_ f
        have e12 := h.2.2.2
        rw [s11] at t4 hl ⊢
        have t4 : psm (K 4) (12 * c) 12 = psm (K 4) (12 * c) 11 + (K 4 (12 * c + 11)).toInt := t4
        omega
      · have d : ¬ _ := fun z => d ((le32 (by decide : (12 : Int32).toInt = 12) ts1).mpr z)
        obtain ⟨-, f⟩ := wb_n f
        rw [(i13 hx h.1 ts1 (by omega)).2.1] at f
        have u2 := h.2.1 (s + 1) (by omega)
        have m5 := ia_mul 1800 1800 n18 (m 0 (13 * c + (s + 1))) (by omega) (by omega)
        rcases ifr f with ⟨d2, f⟩ | ⟨d2, f⟩
        · have d2 := (lt32 rfl m5).mp d2
          exact fin (by omega) f
        · have d2 : ¬ _ := fun z => d2 ((lt32 rfl m5).mpr z)
          have g := wb_f (fun z => by
            have := (lt32 rfl m1).mp z
            omega) g
          obtain ⟨-, g⟩ := wb_n g
          obtain ⟨u, eu, g⟩ := wb_v g
          obtain ⟨w, ew, g⟩ := wb_v g
          rw [ew, nI_1] at g
          have s5 := ia_sub left ((1800 : Int32) * K 4 (12 * c + s)) (by omega) (by omega)
          obtain ⟨v3, ev3, f⟩ := wb_v f
          rw [ev3, nI_1] at f
          refine ih fv (s + 1) u a b f g (by omega) ?_ ?_
          · rw [eu, s5, m1]
            omega
          · rw [eu, s5, m1]
            omega
/-- PLACES of a CLIMB alike -/
theorem po_eq {N N2 : Nat} {I J : Nat → Int32} {L : Int64} {m K : Nat → Nat → Int32} {x cl a b : Int32} {c : Nat} (h : CL (m 0) (K 4) c) (hx : x.toInt = (c : Int)) (hcl : 0 ≤ cl.toInt ∧ cl.toInt < 6480000) (f : fX2_placeOf N I m x cl = some a) (g : fX12_placeOf N2 J L K x cl = some b) : a = b ∧ 0 ≤ a.toInt ∧ a.toInt < 21600 := by
  unfold fX2_placeOf at f
  unfold fX12_placeOf at g
  exact po_l h hx hcl.2 N N2 0 cl a b f g (by omega) (by show cl.toInt = cl.toInt - 1800 * 0; omega) hcl.1
theorem ri_eq {N N2 : Nat} {I J : Nat → Int32} {L : Int64} {m K : Nat → Nat → Int32} {x p t a b : Int32} {c : Nat} (h : CL (m 0) (K 4) c) (hx : x.toInt = (c : Int)) (hp : 0 ≤ p.toInt ∧ p.toInt ≤ 21599) (ht : 0 ≤ t.toInt ∧ t.toInt ≤ 359) (f : fX2_risingAt N I m x p t = some a) (g : fX12_riseOf N2 J L K x p t = some b) : a = b ∧ 0 ≤ a.toInt ∧ a.toInt < 21600 := by
  unfold fX2_risingAt at f
  unfold fX12_riseOf at g
  obtain ⟨r1, f1, f⟩ := wb_b f
  obtain ⟨s1, g1, g⟩ := wb_b g
  obtain ⟨e, b0, b1⟩ := cb_eq h hx hp f1 g1
  rw [← e] at g
  obtain ⟨r2, f2, f⟩ := wb_b f
  obtain ⟨s2, g2, g⟩ := wb_b g
  have f := Option.some.inj f
  have g := Option.some.inj g
  have n18 : (18000 : Int32).toInt = 18000 := by decide
  have m1 := ia_mul 18000 18000 n18 t (by omega) (by omega)
  have a1 := ia_add r1 ((18000 : Int32) * t) (by omega) (by omega)
  have rm := ia_rem (r1 + (18000 : Int32) * t) 6480000 6480000 (by decide) (by omega) (by omega)
  have h0 := Int.emod_nonneg (r1 + (18000 : Int32) * t).toInt (by omega : (6480000 : Int) ≠ 0)
  have h1 := Int.emod_lt_of_pos (r1 + (18000 : Int32) * t).toInt (by omega : (0 : Int) < 6480000)
  obtain ⟨e2, q⟩ := po_eq h hx ⟨by omega, by omega⟩ f2 g2
  rw [← f, ← g, e2]
  rw [e2] at q
  exact ⟨rfl, q⟩
theorem xs32 {x y : Int32} (hy : 0 ≤ y.toInt) : (0 ≤ (x ^^^ y).toInt) ↔ 0 ≤ x.toInt := by
  have m : ∀ z : Int32, z.toBitVec.msb = decide (z.toInt < 0) := fun z => BitVec.msb_eq_toInt
  have e : (x ^^^ y).toBitVec.msb = (x.toBitVec.msb ^^ y.toBitVec.msb) := by
    rw [Int32.toBitVec_xor, BitVec.msb_xor]
  rw [m, m, m, decide_eq_false (by omega : ¬ y.toInt < 0), Bool.xor_false] at e
  have e2 : ((x ^^^ y).toInt < 0) ↔ x.toInt < 0 := by
    have := congrArg (· = true) e
    simp only [decide_eq_true_eq] at this
    rw [this]
  omega
theorem fmd32 {N : Nat} {x y r : Int32} {k : Int} (hk : y.toInt = k) (hy : 0 < k) (h : fJ9_floorMod_7cf53 N x y = some r) : r.toInt = x.toInt % k := by
  unfold fJ9_floorMod_7cf53 at h
  obtain ⟨-, h⟩ := wb_n h
  obtain ⟨v, ev, h⟩ := wb_v h
  have n0 : (0 : Int32).toInt = 0 := by decide
  have ylt := Int32.toInt_lt y
  rcases Int.lt_or_le x.toInt 0 with c | c
  · have nd := ndv c hy
    have h3 := Int.emod_nonneg (-x.toInt) (by omega : k ≠ 0)
    have h4 := Int.emod_lt_of_pos (-x.toInt) hy
    have tv : v.toInt = -((-x.toInt) % k) := by
      have lo := Int32.le_toInt x
      have e : x.toInt.tdiv k = -((-x.toInt) / k) := by
        have e2 : x.toInt = -(-x.toInt) := by omega
        rw [e2, Int.neg_tdiv, Int.tdiv_eq_ediv_of_nonneg (by omega)]
        rw [← e2]
      have h5 : 0 ≤ (-x.toInt) / k := Int.ediv_nonneg (by omega) (by omega)
      have h6 : (-x.toInt) / k ≤ -x.toInt := Int.ediv_le_self _ (by omega)
      have hd : (x / y).toInt = -((-x.toInt) / k) := by
        rw [Int32.toInt_div, hk, e]
        exact Int.bmod_eq_of_le (by omega) (by omega)
      have h7 := Int.mul_ediv_add_emod (-x.toInt) k
      have h8 : -((-x.toInt) / k) * k = -(k * ((-x.toInt) / k)) := by rw [Int.neg_mul, Int.mul_comm]
      have h11 : 0 ≤ k * ((-x.toInt) / k) := Int.mul_nonneg (by omega) h5
      have hm : (x / y * y).toInt = -((-x.toInt) / k) * k := by
        rw [Int32.toInt_mul, hd, hk]
        exact Int.bmod_eq_of_le (by omega) (by omega)
      rw [ev, Int32.toInt_sub, hm]
      have e3 : (x.toInt - -((-x.toInt) / k) * k).bmod (2 ^ 32) = x.toInt - -((-x.toInt) / k) * k := Int.bmod_eq_of_le (by omega) (by omega)
      rw [e3]
      omega
    have h := wb_f (fun z => by
      have z := (le32 n0 rfl).mp z
      have z := (xs32 (y := y) (by omega)).mp z
      omega) h
    rcases ifr h with ⟨c2, h⟩ | ⟨c2, h⟩
    · have c2 := (eq32 rfl n0).mp c2
      have h := Option.some.inj h
      rw [← h, (nd.1 (by omega)).2]
      omega
    · have c2 : ¬ _ := fun z => c2 ((eq32 rfl n0).mpr z)
      have h := Option.some.inj h
      rw [← h, ia_add _ _ (by omega) (by omega), tv, hk, (nd.2 (by omega)).2]
      omega
  · have h := wb_t ((le32 n0 rfl).mpr ((xs32 (y := y) (by omega)).mpr c)) h
    have h := Option.some.inj h
    rw [← h, ev]
    exact ia_rem x y k hk hy c
theorem mi_eq {N N2 : Nat} {I J : Nat → Int32} {L : Int64} {m K : Nat → Nat → Int32} {x p a b : Int32} {c : Nat} (h : CL (m 0) (K 4) c) (h00 : CL (m 0) (K 4) 0) (hx : x.toInt = (c : Int)) (hp : 0 ≤ p.toInt ∧ p.toInt ≤ 21599) (f : fX2_middleOf N I m x p = some a) (g : fX12_middleOf N2 J L K x p = some b) : a = b ∧ 0 ≤ a.toInt ∧ a.toInt < 21600 := by
  unfold fX2_middleOf at f
  unfold fX12_middleOf at g
  obtain ⟨r1, f1, f⟩ := wb_b f
  obtain ⟨s1, g1, g⟩ := wb_b g
  obtain ⟨e, b0, b1⟩ := cb_eq h hx hp f1 g1
  rw [← e] at g
  obtain ⟨r2, f2, f⟩ := wb_b f
  obtain ⟨r3, f3, f⟩ := wb_b f
  obtain ⟨s2, g2, g⟩ := wb_b g
  have f := Option.some.inj f
  have g := Option.some.inj g
  have n1 : (1620000 : Int32).toInt = 1620000 := by decide
  have n2 : (6480000 : Int32).toInt = 6480000 := by decide
  have x1 := ia_sub r1 1620000 (by rw [n1]; omega) (by rw [n1]; omega)
  rw [n1] at x1
  have x2 := fmd32 n2 (by omega) f2
  rw [x1] at x2
  clear x1
  have x3 := ia_add r1 6480000 (by rw [n2]; omega) (by rw [n2]; omega)
  rw [n2] at x3
  generalize r1 + 6480000 = A at x3 g2
  have x4 := ia_sub A 1620000 (by rw [n1]; omega) (by rw [n1]; omega)
  rw [n1] at x4
  generalize A - 1620000 = B at x4 g2
  have x5 := ia_rem B 6480000 6480000 n2 (by omega) (by omega)
  generalize B - B / 6480000 * 6480000 = C at x5 g2
  have er : r2 = C := t32 (by rw [x2, x5, x4, x3]; omega)
  rw [← er] at g2
  have hr0 := Int.emod_nonneg (r1.toInt - 1620000) (by omega : (6480000 : Int) ≠ 0)
  have hr1 := Int.emod_lt_of_pos (r1.toInt - 1620000) (by omega : (0 : Int) < 6480000)
  obtain ⟨e2, q⟩ := po_eq h00 (show (0 : Int32).toInt = ((0 : Nat) : Int) by decide) ⟨by rw [x2]; exact hr0, by rw [x2]; exact hr1⟩ f3 g2
  rw [← f, ← g, e2]
  rw [e2] at q
  exact ⟨rfl, q⟩
/-! answers of both, from what the class's method and the reference's say -/
theorem fin_1n {x : Option (Nat ⊕ Int32)} {I : Nat → Int32} {M : Nat → Nat → Int32} {o : Nat → Int64} {r : Int32 × (Nat → Int32) × (Nat → Nat → Int32) × (Nat → Int64)} {j s : Int32} (h : wb_hp x (fun k => if k = 1 then some ((1 : Int32), I, M, o) else none) (fun r => (some (vp_updL o ((0 : Int32)).toNatClampNeg r.toInt64)).bind fun o1 => some ((0 : Int32), I, M, o1)) = some r) (key : ∀ q, x = some q → (q = .inl 1 ∧ j = 1) ∨ ∃ a, q = .inr a ∧ j = 0 ∧ a = s) : j = r.1 ∧ (r.1 = 0 → r.2.2.2 0 = s.toInt64) := by
  rcases fr_hp h with ⟨k, e, h⟩ | ⟨a, e, h⟩
  · obtain ⟨c, h⟩ := wb_y h
    have h := Option.some.inj h
    rcases key _ e with ⟨-, w⟩ | ⟨a, w, -⟩
    · rw [← h]
      exact ⟨w, fun z => absurd z (by show ¬ (1 : Int32) = 0; decide)⟩
    · cases w
  · obtain ⟨o1, eo, h⟩ := wb_v h
    have h := Option.some.inj h
    rcases key _ e with ⟨w, -⟩ | ⟨a2, w, w2, w3⟩
    · cases w
    · have w := Sum.inr.inj w
      rw [← h]
      refine ⟨w2, fun _ => ?_⟩
      show o1 0 = _
      rw [eo, ← w3, w]
      rfl
/-! counts of both -/
/-- a loop that adds: what it adds, as a sum -/
noncomputable def sm2 (d : Nat → Int32) : Nat → Int32
  | 0 => 0
  | n + 1 => sm2 d n + d n
theorem ad32 (a b c : Int32) : a + b + c = a + c + b := by rw [Int32.add_assoc, Int32.add_comm b c, ← Int32.add_assoc]
theorem ac32 {a b c : Int32} (h : a + c = b + c) : a = b := by
  have := congrArg (fun z => z + -c) h
  simp only [Int32.add_assoc, Int32.add_right_neg, Int32.add_zero] at this
  exact this
theorem z32 (x : Int32) : x + 0 = x := Int32.add_zero x
/-- the outcomes told, of both -/
noncomputable def OR (M K : Nat → Nat → Int32) : Prop := ∀ j : Nat, j < 20 → M 28 j = K 32 j ∧ (-1 ≤ (M 28 j).toInt ∧ (M 28 j).toInt ≤ 120) ∧ (¬ M 28 j = -1 → M 29 j = K 33 j ∧ 0 ≤ (M 29 j).toInt ∧ (M 29 j).toInt ≤ 120) ∧ M 30 j = K 34 j ∧ -1 ≤ (M 30 j).toInt ∧ (M 30 j).toInt ≤ 12
/-! houses alike -/
theorem n360 : (360 : Int32).toInt = 360 := by decide
theorem fm360 {N : Nat} {x r : Int32} (h0 : -360 ≤ x.toInt) (h1 : x.toInt ≤ 100000) (h : fJ9_floorMod_7cf53 N x 360 = some r) : r = (x + 360) - (x + 360) / 360 * 360 ∧ r.toInt = x.toInt % 360 := by
  have a := fmd32 n360 (by omega) h
  have b := ia_add x 360 (by rw [n360]; omega) (by rw [n360]; omega)
  rw [n360] at b
  have c := ia_rem (x + 360) 360 360 n360 (by omega) (by omega)
  exact ⟨t32 (by rw [a, c, b]; omega), a⟩
theorem md0 (x : Int32) (g : Int32) : x + (0 * g) / 3 = x := by
  rw [Int32.zero_mul, show (0 : Int32) / 3 = 0 from by decide, Int32.add_zero]
theorem md1 (x : Int32) (g : Int32) : x + (1 * g) / 3 = x + g / 3 := by rw [Int32.one_mul]
theorem hm_eq {N N2 : Nat} {I J : Nat → Int32} {L : Int64} {m K : Nat → Nat → Int32} {x p a b h w : Int32} {c : Nat} (hc : CL (m 0) (K 4) c) (h00 : CL (m 0) (K 4) 0) (hx : x.toInt = (c : Int)) (hp : 0 ≤ p.toInt ∧ p.toInt ≤ 359) (hh : 1 ≤ h.toInt ∧ h.toInt ≤ 12) (w0 : ¬ w = 0) (w1 : ¬ w = 1) (f : fX2_houseByMiddle N I m p x h = some a) (g : fX12_houseAt N2 J L K p w x h = some b) : a = b := by
  have n60 : (60 : Int32).toInt = 60 := by decide
  have n180 : (180 : Int32).toInt = 180 := by decide
  have m60 := ia_mul 60 60 n60 p (by omega) (by omega)
  unfold fX12_houseAt at g
  have g := wb_f w1 (wb_f w0 g)
  obtain ⟨s1, g1, g⟩ := wb_b g
  obtain ⟨v2, e2, g⟩ := wb_v g
  obtain ⟨v3, e3, g⟩ := wb_v g
  obtain ⟨v4, e4, g⟩ := wb_v g
  have core : ∀ (r1 F G : Int32), fX2_middleOf N I m x ((60 : Int32) * p) = some r1 → (fJ9_floorMod_7cf53 N (p - r1 / 60) 360 = some F → F = v3) ∧ (fJ9_floorMod_7cf53 N ((r1 / 60 + 180) - p) 360 = some G → G = v4) ∧ r1 / 60 = v2 := by
    intro r1 F G f1
    obtain ⟨e, q0, q1⟩ := mi_eq hc h00 hx ⟨by omega, by omega⟩ f1 g1
    have d := dv60 q0 q1
    rw [← e] at e2
    rw [← e2] at d ⊢
    clear f1 g1
    have b1 := ia_sub p v2 (by omega) (by omega)
    have b2 := ia_add v2 180 (by rw [n180]; omega) (by rw [n180]; omega)
    rw [n180] at b2
    have b3 := ia_sub (v2 + 180) p (by omega) (by omega)
    refine ⟨fun q => ?_, fun q => ?_, rfl⟩
    · rw [e3]; exact (fm360 (by omega) (by omega) q).1
    · rw [e4]; exact (fm360 (by omega) (by omega) q).1
  clear e2 e3 e4 g1
  have hcs : h = 1 ∨ h = 2 ∨ h = 3 ∨ h = 4 ∨ h = 5 ∨ h = 6 ∨ h = 7 ∨ h = 8 ∨ h = 9 ∨ h = 10 ∨ h = 11 ∨ h = 12 := by
    have t : ∀ z : Int32, z.toInt = h.toInt → h = z := fun z e => (t32 e).symm
    have k1 : (1 : Int32).toInt = 1 := by decide
    have k2 : (2 : Int32).toInt = 2 := by decide
    have k3 : (3 : Int32).toInt = 3 := by decide
    have k4 : (4 : Int32).toInt = 4 := by decide
    have k5 : (5 : Int32).toInt = 5 := by decide
    have k6 : (6 : Int32).toInt = 6 := by decide
    have k7 : (7 : Int32).toInt = 7 := by decide
    have k8 : (8 : Int32).toInt = 8 := by decide
    have k9 : (9 : Int32).toInt = 9 := by decide
    have k10 : (10 : Int32).toInt = 10 := by decide
    have k11 : (11 : Int32).toInt = 11 := by decide
    have k12 : (12 : Int32).toInt = 12 := by decide
    rcases (by omega : h.toInt = 1 ∨ h.toInt = 2 ∨ h.toInt = 3 ∨ h.toInt = 4 ∨ h.toInt = 5 ∨ h.toInt = 6 ∨ h.toInt = 7 ∨ h.toInt = 8 ∨ h.toInt = 9 ∨ h.toInt = 10 ∨ h.toInt = 11 ∨ h.toInt = 12) with q | q | q | q | q | q | q | q | q | q | q | q
    · exact Or.inl (t 1 (by omega))
    · exact Or.inr (Or.inl (t 2 (by omega)))
    · exact Or.inr (Or.inr (Or.inl (t 3 (by omega))))
    · exact Or.inr (Or.inr (Or.inr (Or.inl (t 4 (by omega)))))
    · exact Or.inr (Or.inr (Or.inr (Or.inr (Or.inl (t 5 (by omega))))))
    · exact Or.inr (Or.inr (Or.inr (Or.inr (Or.inr (Or.inl (t 6 (by omega)))))))
    · exact Or.inr (Or.inr (Or.inr (Or.inr (Or.inr (Or.inr (Or.inl (t 7 (by omega))))))))
    · exact Or.inr (Or.inr (Or.inr (Or.inr (Or.inr (Or.inr (Or.inr (Or.inl (t 8 (by omega)))))))))
    · exact Or.inr (Or.inr (Or.inr (Or.inr (Or.inr (Or.inr (Or.inr (Or.inr (Or.inl (t 9 (by omega))))))))))
    · exact Or.inr (Or.inr (Or.inr (Or.inr (Or.inr (Or.inr (Or.inr (Or.inr (Or.inr (Or.inl (t 10 (by omega)))))))))))
    · exact Or.inr (Or.inr (Or.inr (Or.inr (Or.inr (Or.inr (Or.inr (Or.inr (Or.inr (Or.inr (Or.inl (t 11 (by omega))))))))))))
    · exact Or.inr (Or.inr (Or.inr (Or.inr (Or.inr (Or.inr (Or.inr (Or.inr (Or.inr (Or.inr (Or.inr (t 12 (by omega))))))))))))
  unfold fX2_houseByMiddle at f
  rcases hcs with q | q | q | q | q | q | q | q | q | q | q | q
  · subst q
    have f := wb_t (c := (1 : Int32) < 4) (by decide) f
    unfold fX2_houseByMiddle_J15 fX2_houseByMiddle_J16 at f
    have f := wb_t (c := (0 : Int32) = 0) rfl f
    unfold fX2_houseByMiddle_J44 at f
    obtain ⟨r1, f1, f⟩ := wb_b f
    obtain ⟨w2, d2, f⟩ := wb_v f
    rw [d2] at f
    clear d2 w2
    have f := wb_t (c := ((1 : Int32)) < (10 : Int32)) (by decide) f
    obtain ⟨G, fG, f⟩ := wb_b f
    obtain ⟨_, kG, k2⟩ := core r1 0 G f1
    have eG := kG fG
    rw [eG] at f
    obtain ⟨u, eu, f⟩ := wb_v f
    rw [show (((1 : Int32)) - 1) = (0 : Int32) from by decide, md0] at eu
    unfold fX2_houseByMiddle_J118 at f
    have f := Option.some.inj (wb_t (c := (0 : Int32) = 0) (by decide) f)
    have g := wb_t (c := (1 : Int32) ≤ 3) (by decide) g
    unfold fX12_houseAt_J110 fX12_houseAt_J112 at g
    have g := wb_t (c := (1 : Int32) = 1) (by decide) g
    unfold fX12_houseAt_J195 at g
    have g := Option.some.inj (wb_t (c := (1 : Int32) = 1) (by decide) g)
    rw [← f, ← g, eu]
  · subst q
    have f := wb_t (c := (2 : Int32) < 4) (by decide) f
    unfold fX2_houseByMiddle_J15 fX2_houseByMiddle_J16 at f
    have f := wb_t (c := (0 : Int32) = 0) rfl f
    unfold fX2_houseByMiddle_J44 at f
    obtain ⟨r1, f1, f⟩ := wb_b f
    obtain ⟨w2, d2, f⟩ := wb_v f
    rw [d2] at f
    clear d2 w2
    have f := wb_t (c := ((2 : Int32)) < (10 : Int32)) (by decide) f
    obtain ⟨G, fG, f⟩ := wb_b f
    obtain ⟨_, kG, k2⟩ := core r1 0 G f1
    have eG := kG fG
    rw [eG] at f
    obtain ⟨u, eu, f⟩ := wb_v f
    rw [show (((2 : Int32)) - 1) = (1 : Int32) from by decide, md1] at eu
    unfold fX2_houseByMiddle_J118 at f
    have f := Option.some.inj (wb_t (c := (0 : Int32) = 0) (by decide) f)
    have g := wb_t (c := (2 : Int32) ≤ 3) (by decide) g
    unfold fX12_houseAt_J110 fX12_houseAt_J112 at g
    have g := wb_f (c := (2 : Int32) = 1) (by decide) g
    have g := wb_f (c := (2 : Int32) = 10) (by decide) g
    have g := wb_f (c := (2 : Int32) = 11) (by decide) g
    have g := wb_f (c := (2 : Int32) = 12) (by decide) g
    have g := wb_t (c := (2 : Int32) = 2) (by decide) g
    unfold fX12_houseAt_J195 at g
    have g := Option.some.inj (wb_t (c := (2 : Int32) = 2) (by decide) g)
    rw [← f, ← g, eu]
  · subst q
    have f := wb_t (c := (3 : Int32) < 4) (by decide) f
    unfold fX2_houseByMiddle_J15 fX2_houseByMiddle_J16 at f
    have f := wb_t (c := (0 : Int32) = 0) rfl f
    unfold fX2_houseByMiddle_J44 at f
    obtain ⟨r1, f1, f⟩ := wb_b f
    obtain ⟨w2, d2, f⟩ := wb_v f
    rw [d2] at f
    clear d2 w2
    have f := wb_t (c := ((3 : Int32)) < (10 : Int32)) (by decide) f
    obtain ⟨G, fG, f⟩ := wb_b f
    obtain ⟨_, kG, k2⟩ := core r1 0 G f1
    have eG := kG fG
    rw [eG] at f
    obtain ⟨u, eu, f⟩ := wb_v f
    rw [show (((3 : Int32)) - 1) = (2 : Int32) from by decide] at eu
    unfold fX2_houseByMiddle_J118 at f
    have f := Option.some.inj (wb_t (c := (0 : Int32) = 0) (by decide) f)
    have g := wb_t (c := (3 : Int32) ≤ 3) (by decide) g
    unfold fX12_houseAt_J110 fX12_houseAt_J112 at g
    have g := wb_f (c := (3 : Int32) = 1) (by decide) g
    have g := wb_f (c := (3 : Int32) = 10) (by decide) g
    have g := wb_f (c := (3 : Int32) = 11) (by decide) g
    have g := wb_f (c := (3 : Int32) = 12) (by decide) g
    have g := wb_f (c := (3 : Int32) = 2) (by decide) g
    unfold fX12_houseAt_J195 at g
    have g := Option.some.inj (wb_t (c := (3 : Int32) = 3) (by decide) g)
    rw [← f, ← g, eu]
  · subst q
    have f := wb_f (c := (4 : Int32) < 4) (by decide) f
    have f := wb_f (c := (9 : Int32) < 4) (by decide) f
    unfold fX2_houseByMiddle_J16 at f
    have f := wb_f (c := (1 : Int32) = 0) (by decide) f
    have f := wb_f (c := (7 : Int32) ≤ 4) (by decide) f
    unfold fX2_houseByMiddle_J44 at f
    obtain ⟨r1, f1, f⟩ := wb_b f
    obtain ⟨w2, d2, f⟩ := wb_v f
    rw [d2] at f
    clear d2 w2
    have f := wb_f (c := ((4 : Int32) + 6) < (10 : Int32)) (by decide) f
    obtain ⟨F, fF, f⟩ := wb_b f
    obtain ⟨kF, _, k2⟩ := core r1 F 0 f1
    have eF := kF fF
    rw [eF, k2] at f
    obtain ⟨u, eu, f⟩ := wb_v f
    rw [show (((4 : Int32) + 6) - 10) = (0 : Int32) from by decide, md0] at eu
    unfold fX2_houseByMiddle_J118 at f
    have f := Option.some.inj (wb_f (c := (1 : Int32) = 0) (by decide) f)
    have g := wb_f (c := (4 : Int32) ≤ 3) (by decide) g
    have g := wb_f (c := (10 : Int32) ≤ 4) (by decide) g
    unfold fX12_houseAt_J112 at g
    have g := wb_f (c := ((((4 : Int32) + 5) - ((4 : Int32) + 5) / 12 * 12) + 1) = 1) (by decide) g
    have g := wb_t (c := ((((4 : Int32) + 5) - ((4 : Int32) + 5) / 12 * 12) + 1) = 10) (by decide) g
    unfold fX12_houseAt_J195 at g
    have g := Option.some.inj (wb_f (c := ((((4 : Int32) + 5) - ((4 : Int32) + 5) / 12 * 12) + 1) = 4) (by decide) g)
    rw [← f, ← g, eu]
  · subst q
    have f := wb_f (c := (5 : Int32) < 4) (by decide) f
    have f := wb_f (c := (9 : Int32) < 5) (by decide) f
    unfold fX2_houseByMiddle_J16 at f
    have f := wb_f (c := (1 : Int32) = 0) (by decide) f
    have f := wb_f (c := (7 : Int32) ≤ 5) (by decide) f
    unfold fX2_houseByMiddle_J44 at f
    obtain ⟨r1, f1, f⟩ := wb_b f
    obtain ⟨w2, d2, f⟩ := wb_v f
    rw [d2] at f
    clear d2 w2
    have f := wb_f (c := ((5 : Int32) + 6) < (10 : Int32)) (by decide) f
    obtain ⟨F, fF, f⟩ := wb_b f
    obtain ⟨kF, _, k2⟩ := core r1 F 0 f1
    have eF := kF fF
    rw [eF, k2] at f
    obtain ⟨u, eu, f⟩ := wb_v f
    rw [show (((5 : Int32) + 6) - 10) = (1 : Int32) from by decide, md1] at eu
    unfold fX2_houseByMiddle_J118 at f
    have f := Option.some.inj (wb_f (c := (1 : Int32) = 0) (by decide) f)
    have g := wb_f (c := (5 : Int32) ≤ 3) (by decide) g
    have g := wb_f (c := (10 : Int32) ≤ 5) (by decide) g
    unfold fX12_houseAt_J112 at g
    have g := wb_f (c := ((((5 : Int32) + 5) - ((5 : Int32) + 5) / 12 * 12) + 1) = 1) (by decide) g
    have g := wb_f (c := ((((5 : Int32) + 5) - ((5 : Int32) + 5) / 12 * 12) + 1) = 10) (by decide) g
    have g := wb_t (c := ((((5 : Int32) + 5) - ((5 : Int32) + 5) / 12 * 12) + 1) = 11) (by decide) g
    unfold fX12_houseAt_J195 at g
    have g := Option.some.inj (wb_f (c := ((((5 : Int32) + 5) - ((5 : Int32) + 5) / 12 * 12) + 1) = 5) (by decide) g)
    rw [← f, ← g, eu]
  · subst q
    have f := wb_f (c := (6 : Int32) < 4) (by decide) f
    have f := wb_f (c := (9 : Int32) < 6) (by decide) f
    unfold fX2_houseByMiddle_J16 at f
    have f := wb_f (c := (1 : Int32) = 0) (by decide) f
    have f := wb_f (c := (7 : Int32) ≤ 6) (by decide) f
    unfold fX2_houseByMiddle_J44 at f
    obtain ⟨r1, f1, f⟩ := wb_b f
    obtain ⟨w2, d2, f⟩ := wb_v f
    rw [d2] at f
    clear d2 w2
    have f := wb_f (c := ((6 : Int32) + 6) < (10 : Int32)) (by decide) f
    obtain ⟨F, fF, f⟩ := wb_b f
    obtain ⟨kF, _, k2⟩ := core r1 F 0 f1
    have eF := kF fF
    rw [eF, k2] at f
    obtain ⟨u, eu, f⟩ := wb_v f
    rw [show (((6 : Int32) + 6) - 10) = (2 : Int32) from by decide] at eu
    unfold fX2_houseByMiddle_J118 at f
    have f := Option.some.inj (wb_f (c := (1 : Int32) = 0) (by decide) f)
    have g := wb_f (c := (6 : Int32) ≤ 3) (by decide) g
    have g := wb_f (c := (10 : Int32) ≤ 6) (by decide) g
    unfold fX12_houseAt_J112 at g
    have g := wb_f (c := ((((6 : Int32) + 5) - ((6 : Int32) + 5) / 12 * 12) + 1) = 1) (by decide) g
    have g := wb_f (c := ((((6 : Int32) + 5) - ((6 : Int32) + 5) / 12 * 12) + 1) = 10) (by decide) g
    have g := wb_f (c := ((((6 : Int32) + 5) - ((6 : Int32) + 5) / 12 * 12) + 1) = 11) (by decide) g
    have g := wb_t (c := ((((6 : Int32) + 5) - ((6 : Int32) + 5) / 12 * 12) + 1) = 12) (by decide) g
    unfold fX12_houseAt_J195 at g
    have g := Option.some.inj (wb_f (c := ((((6 : Int32) + 5) - ((6 : Int32) + 5) / 12 * 12) + 1) = 6) (by decide) g)
    rw [← f, ← g, eu]
  · subst q
    have f := wb_f (c := (7 : Int32) < 4) (by decide) f
    have f := wb_f (c := (9 : Int32) < 7) (by decide) f
    unfold fX2_houseByMiddle_J16 at f
    have f := wb_f (c := (1 : Int32) = 0) (by decide) f
    have f := wb_t (c := (7 : Int32) ≤ 7) (by decide) f
    unfold fX2_houseByMiddle_J44 at f
    obtain ⟨r1, f1, f⟩ := wb_b f
    obtain ⟨w2, d2, f⟩ := wb_v f
    rw [d2] at f
    clear d2 w2
    have f := wb_t (c := ((7 : Int32) - 6) < (10 : Int32)) (by decide) f
    obtain ⟨G, fG, f⟩ := wb_b f
    obtain ⟨_, kG, k2⟩ := core r1 0 G f1
    have eG := kG fG
    rw [eG] at f
    obtain ⟨u, eu, f⟩ := wb_v f
    rw [show (((7 : Int32) - 6) - 1) = (0 : Int32) from by decide, md0] at eu
    unfold fX2_houseByMiddle_J118 at f
    have f := Option.some.inj (wb_f (c := (1 : Int32) = 0) (by decide) f)
    have g := wb_f (c := (7 : Int32) ≤ 3) (by decide) g
    have g := wb_f (c := (10 : Int32) ≤ 7) (by decide) g
    unfold fX12_houseAt_J112 at g
    have g := wb_t (c := ((((7 : Int32) + 5) - ((7 : Int32) + 5) / 12 * 12) + 1) = 1) (by decide) g
    unfold fX12_houseAt_J195 at g
    have g := Option.some.inj (wb_f (c := ((((7 : Int32) + 5) - ((7 : Int32) + 5) / 12 * 12) + 1) = 7) (by decide) g)
    rw [← f, ← g, eu]
  · subst q
    have f := wb_f (c := (8 : Int32) < 4) (by decide) f
    have f := wb_f (c := (9 : Int32) < 8) (by decide) f
    unfold fX2_houseByMiddle_J16 at f
    have f := wb_f (c := (1 : Int32) = 0) (by decide) f
    have f := wb_t (c := (7 : Int32) ≤ 8) (by decide) f
    unfold fX2_houseByMiddle_J44 at f
    obtain ⟨r1, f1, f⟩ := wb_b f
    obtain ⟨w2, d2, f⟩ := wb_v f
    rw [d2] at f
    clear d2 w2
    have f := wb_t (c := ((8 : Int32) - 6) < (10 : Int32)) (by decide) f
    obtain ⟨G, fG, f⟩ := wb_b f
    obtain ⟨_, kG, k2⟩ := core r1 0 G f1
    have eG := kG fG
    rw [eG] at f
    obtain ⟨u, eu, f⟩ := wb_v f
    rw [show (((8 : Int32) - 6) - 1) = (1 : Int32) from by decide, md1] at eu
    unfold fX2_houseByMiddle_J118 at f
    have f := Option.some.inj (wb_f (c := (1 : Int32) = 0) (by decide) f)
    have g := wb_f (c := (8 : Int32) ≤ 3) (by decide) g
    have g := wb_f (c := (10 : Int32) ≤ 8) (by decide) g
    unfold fX12_houseAt_J112 at g
    have g := wb_f (c := ((((8 : Int32) + 5) - ((8 : Int32) + 5) / 12 * 12) + 1) = 1) (by decide) g
    have g := wb_f (c := ((((8 : Int32) + 5) - ((8 : Int32) + 5) / 12 * 12) + 1) = 10) (by decide) g
    have g := wb_f (c := ((((8 : Int32) + 5) - ((8 : Int32) + 5) / 12 * 12) + 1) = 11) (by decide) g
    have g := wb_f (c := ((((8 : Int32) + 5) - ((8 : Int32) + 5) / 12 * 12) + 1) = 12) (by decide) g
    have g := wb_t (c := ((((8 : Int32) + 5) - ((8 : Int32) + 5) / 12 * 12) + 1) = 2) (by decide) g
    unfold fX12_houseAt_J195 at g
    have g := Option.some.inj (wb_f (c := ((((8 : Int32) + 5) - ((8 : Int32) + 5) / 12 * 12) + 1) = 8) (by decide) g)
    rw [← f, ← g, eu]
  · subst q
    have f := wb_f (c := (9 : Int32) < 4) (by decide) f
    have f := wb_f (c := (9 : Int32) < 9) (by decide) f
    unfold fX2_houseByMiddle_J16 at f
    have f := wb_f (c := (1 : Int32) = 0) (by decide) f
    have f := wb_t (c := (7 : Int32) ≤ 9) (by decide) f
    unfold fX2_houseByMiddle_J44 at f
    obtain ⟨r1, f1, f⟩ := wb_b f
    obtain ⟨w2, d2, f⟩ := wb_v f
    rw [d2] at f
    clear d2 w2
    have f := wb_t (c := ((9 : Int32) - 6) < (10 : Int32)) (by decide) f
    obtain ⟨G, fG, f⟩ := wb_b f
    obtain ⟨_, kG, k2⟩ := core r1 0 G f1
    have eG := kG fG
    rw [eG] at f
    obtain ⟨u, eu, f⟩ := wb_v f
    rw [show (((9 : Int32) - 6) - 1) = (2 : Int32) from by decide] at eu
    unfold fX2_houseByMiddle_J118 at f
    have f := Option.some.inj (wb_f (c := (1 : Int32) = 0) (by decide) f)
    have g := wb_f (c := (9 : Int32) ≤ 3) (by decide) g
    have g := wb_f (c := (10 : Int32) ≤ 9) (by decide) g
    unfold fX12_houseAt_J112 at g
    have g := wb_f (c := ((((9 : Int32) + 5) - ((9 : Int32) + 5) / 12 * 12) + 1) = 1) (by decide) g
    have g := wb_f (c := ((((9 : Int32) + 5) - ((9 : Int32) + 5) / 12 * 12) + 1) = 10) (by decide) g
    have g := wb_f (c := ((((9 : Int32) + 5) - ((9 : Int32) + 5) / 12 * 12) + 1) = 11) (by decide) g
    have g := wb_f (c := ((((9 : Int32) + 5) - ((9 : Int32) + 5) / 12 * 12) + 1) = 12) (by decide) g
    have g := wb_f (c := ((((9 : Int32) + 5) - ((9 : Int32) + 5) / 12 * 12) + 1) = 2) (by decide) g
    unfold fX12_houseAt_J195 at g
    have g := Option.some.inj (wb_f (c := ((((9 : Int32) + 5) - ((9 : Int32) + 5) / 12 * 12) + 1) = 9) (by decide) g)
    rw [← f, ← g, eu]
  · subst q
    have f := wb_f (c := (10 : Int32) < 4) (by decide) f
    have f := wb_t (c := (9 : Int32) < 10) (by decide) f
    unfold fX2_houseByMiddle_J15 fX2_houseByMiddle_J16 at f
    have f := wb_t (c := (0 : Int32) = 0) rfl f
    unfold fX2_houseByMiddle_J44 at f
    obtain ⟨r1, f1, f⟩ := wb_b f
    obtain ⟨w2, d2, f⟩ := wb_v f
    rw [d2] at f
    clear d2 w2
    have f := wb_f (c := ((10 : Int32)) < (10 : Int32)) (by decide) f
    obtain ⟨F, fF, f⟩ := wb_b f
    obtain ⟨kF, _, k2⟩ := core r1 F 0 f1
    have eF := kF fF
    rw [eF, k2] at f
    obtain ⟨u, eu, f⟩ := wb_v f
    rw [show (((10 : Int32)) - 10) = (0 : Int32) from by decide, md0] at eu
    unfold fX2_houseByMiddle_J118 at f
    have f := Option.some.inj (wb_t (c := (0 : Int32) = 0) (by decide) f)
    have g := wb_f (c := (10 : Int32) ≤ 3) (by decide) g
    have g := wb_t (c := (10 : Int32) ≤ 10) (by decide) g
    unfold fX12_houseAt_J110 fX12_houseAt_J112 at g
    have g := wb_f (c := (10 : Int32) = 1) (by decide) g
    have g := wb_t (c := (10 : Int32) = 10) (by decide) g
    unfold fX12_houseAt_J195 at g
    have g := Option.some.inj (wb_t (c := (10 : Int32) = 10) (by decide) g)
    rw [← f, ← g, eu]
  · subst q
    have f := wb_f (c := (11 : Int32) < 4) (by decide) f
    have f := wb_t (c := (9 : Int32) < 11) (by decide) f
    unfold fX2_houseByMiddle_J15 fX2_houseByMiddle_J16 at f
    have f := wb_t (c := (0 : Int32) = 0) rfl f
    unfold fX2_houseByMiddle_J44 at f
    obtain ⟨r1, f1, f⟩ := wb_b f
    obtain ⟨w2, d2, f⟩ := wb_v f
    rw [d2] at f
    clear d2 w2
    have f := wb_f (c := ((11 : Int32)) < (10 : Int32)) (by decide) f
    obtain ⟨F, fF, f⟩ := wb_b f
    obtain ⟨kF, _, k2⟩ := core r1 F 0 f1
    have eF := kF fF
    rw [eF, k2] at f
    obtain ⟨u, eu, f⟩ := wb_v f
    rw [show (((11 : Int32)) - 10) = (1 : Int32) from by decide, md1] at eu
    unfold fX2_houseByMiddle_J118 at f
    have f := Option.some.inj (wb_t (c := (0 : Int32) = 0) (by decide) f)
    have g := wb_f (c := (11 : Int32) ≤ 3) (by decide) g
    have g := wb_t (c := (10 : Int32) ≤ 11) (by decide) g
    unfold fX12_houseAt_J110 fX12_houseAt_J112 at g
    have g := wb_f (c := (11 : Int32) = 1) (by decide) g
    have g := wb_f (c := (11 : Int32) = 10) (by decide) g
    have g := wb_t (c := (11 : Int32) = 11) (by decide) g
    unfold fX12_houseAt_J195 at g
    have g := Option.some.inj (wb_t (c := (11 : Int32) = 11) (by decide) g)
    rw [← f, ← g, eu]
  · subst q
    have f := wb_f (c := (12 : Int32) < 4) (by decide) f
    have f := wb_t (c := (9 : Int32) < 12) (by decide) f
    unfold fX2_houseByMiddle_J15 fX2_houseByMiddle_J16 at f
    have f := wb_t (c := (0 : Int32) = 0) rfl f
    unfold fX2_houseByMiddle_J44 at f
    obtain ⟨r1, f1, f⟩ := wb_b f
    obtain ⟨w2, d2, f⟩ := wb_v f
    rw [d2] at f
    clear d2 w2
    have f := wb_f (c := ((12 : Int32)) < (10 : Int32)) (by decide) f
    obtain ⟨F, fF, f⟩ := wb_b f
    obtain ⟨kF, _, k2⟩ := core r1 F 0 f1
    have eF := kF fF
    rw [eF, k2] at f
    obtain ⟨u, eu, f⟩ := wb_v f
    rw [show (((12 : Int32)) - 10) = (2 : Int32) from by decide] at eu
    unfold fX2_houseByMiddle_J118 at f
    have f := Option.some.inj (wb_t (c := (0 : Int32) = 0) (by decide) f)
    have g := wb_f (c := (12 : Int32) ≤ 3) (by decide) g
    have g := wb_t (c := (10 : Int32) ≤ 12) (by decide) g
    unfold fX12_houseAt_J110 fX12_houseAt_J112 at g
    have g := wb_f (c := (12 : Int32) = 1) (by decide) g
    have g := wb_f (c := (12 : Int32) = 10) (by decide) g
    have g := wb_f (c := (12 : Int32) = 11) (by decide) g
    have g := wb_t (c := (12 : Int32) = 12) (by decide) g
    unfold fX12_houseAt_J195 at g
    have g := Option.some.inj (wb_t (c := (12 : Int32) = 12) (by decide) g)
    rw [← f, ← g, eu]
theorem ho_eq {N N2 : Nat} {I J : Nat → Int32} {L : Int64} {m K : Nat → Nat → Int32} {p a b h w x : Int32} (hc : ¬ w = 0 → ¬ w = 1 → ∃ c : Nat, CL (m 0) (K 4) c ∧ CL (m 0) (K 4) 0 ∧ x.toInt = (c : Int)) (hp : 0 ≤ p.toInt ∧ p.toInt ≤ 359) (hh : 1 ≤ h.toInt ∧ h.toInt ≤ 12) (f : fX2_houseDegree N I m p w x h = some a) (g : fX12_houseAt N2 J L K p w x h = some b) : a = b := by
  unfold fX2_houseDegree at f
  rcases ifr f with ⟨w0, f⟩ | ⟨w0, f⟩
  · unfold fX12_houseAt at g
    have g := wb_t w0 g
    rw [← Option.some.inj f, ← Option.some.inj g, Int32.mul_comm]
  · rcases ifr f with ⟨w1, f⟩ | ⟨w1, f⟩
    · unfold fX12_houseAt at g
      have g := wb_t w1 (wb_f w0 g)
      rw [← Option.some.inj f, ← Option.some.inj g]
    · obtain ⟨r, e, f⟩ := wb_b f
      obtain ⟨c, q1, q2, q3⟩ := hc w0 w1
      rw [← Option.some.inj f]
      exact hm_eq q1 q2 q3 hp hh w0 w1 e g
/-! hours alike -/
theorem hr_eq {N N2 : Nat} {I J : Nat → Int32} {L : Int64} {m K : Nat → Nat → Int32} {x t n sun rise a b : Int32} {c : Nat} (hc : CL (m 0) (K 4) c) (hx : x.toInt = (c : Int)) (ht : 0 ≤ t.toInt ∧ t.toInt ≤ 359) (hs : 0 ≤ sun.toInt ∧ sun.toInt ≤ 359) (g0 : fX12_at N2 J L K n 0 = some sun) (g7 : fX12_at N2 J L K n 7 = some rise) (f : fX2_isHour N I m x t sun rise = some a) (g : fX12_isHour N2 J L K n x t = some b) : a = b ∧ (a = 0 ∨ a = 1) := by
  have n60 : (60 : Int32).toInt = 60 := by decide
  have m60 := ia_mul 60 60 n60 sun (by omega) (by omega)
  unfold fX2_isHour at f
  unfold fX12_isHour at g
  obtain ⟨r1, f1, f⟩ := wb_b f
  obtain ⟨s0, d0, g⟩ := wb_b g
  obtain ⟨s1, d1, g⟩ := wb_b g
  obtain ⟨s7, d7, g⟩ := wb_b g
  have q0 : s0 = sun := Option.some.inj (d0.symm.trans g0)
  have q7 : s7 = rise := Option.some.inj (d7.symm.trans g7)
  rw [q0] at d1
  rw [q7] at g
  have e := (ri_eq hc hx ⟨by omega, by omega⟩ ht f1 d1).1
  rw [← e] at g
  rcases ifr f with ⟨k, f⟩ | ⟨k, f⟩
  · rw [← Option.some.inj f, ← Option.some.inj (wb_t k g)]
    exact ⟨rfl, Or.inr rfl⟩
  · rw [← Option.some.inj f, ← Option.some.inj (wb_f k g)]
    exact ⟨rfl, Or.inl rfl⟩
/-! AGREE alike -/
theorem i98 (y : Int32) : ((9 : Int32) + y) - 1 = (8 : Int32) + y := by
  rw [Int32.sub_eq_add_neg, ad32, show (9 : Int32) + -1 = 8 from by decide]
theorem s32s (a b : Int32) : a - b + 1 = a + 1 - b := by rw [Int32.sub_eq_add_neg, Int32.sub_eq_add_neg, ad32]
theorem s32t (a b : Int32) : a - b = (a + 1) - (b + 1) := by
  rw [Int32.sub_eq_add_neg, Int32.sub_eq_add_neg, Int32.neg_add, Int32.sub_eq_add_neg, ← Int32.add_assoc, ad32 (a + 1), Int32.add_assoc (a) 1 (-1), show (1 : Int32) + -1 = 0 from by decide, Int32.add_zero]
theorem ag_l {N N2 : Nat} {I I1 J : Nat → Int32} {L : Int64} {M m1 K : Nat → Nat → Int32} {n w x r : Int32} (er : EnR M K) (g7 : fX12_at N2 J L K n 7 = some r) (hh : ∀ y b c, 1 ≤ y.toInt ∧ y.toInt ≤ 12 → fX2_houseDegree N I1 m1 r w x y = some b → fX12_houseAt N2 J L K r w x y = some c → b = c) : ∀ (fu fu2 fv y : Nat) (v1 v2 v3 a1 a2 a3 : Int32), fX1_howManyHouses_L4 N I (wb_sh M 13) n fu v1 (nI y) = some a1 → fX1_howManyDiffer_L15 N I (wb_sh M 13) I1 m1 n w x r fu2 v2 (nI y) = some a2 → fX12_agrees_L6 N2 J L K n w x fv v3 (nI y) = some a3 → 1 ≤ y → y ≤ 13 → v3 = v1 - v2 → a3 = a1 - a2 := by
  have n12 : (12 : Int32).toInt = 12 := by decide
  intro fu
  induction fu with
  | zero => intro fu2 fv y v1 v2 v3 a1 a2 a3 h; cases (show none = some a1 from h)
  | succ fu ih =>
    intro fu2 fv y v1 v2 v3 a1 a2 a3 h k g y1 y2 hv
    cases fu2 with
    | zero => cases (show none = some a2 from k)
    | succ fu2 =>
    cases fv with
    | zero => cases (show none = some a3 from g)
    | succ fv =>
      rw [fX1_howManyHouses_L4.eq_2] at h
      rw [fX1_howManyDiffer_L15.eq_2] at k
      rw [fX12_agrees_L6.eq_2] at g
      have ty : (nI y).toInt = (y : Int) := nI_toInt (by omega)
      rcases ifr h with ⟨c, h⟩ | ⟨c, h⟩
      · rw [← Option.some.inj (wb_t c g), ← Option.some.inj (wb_t c k), ← Option.some.inj h, hv]
      · have g := wb_f c g
        have k := wb_f c k
        have c : ¬ _ := fun z => c ((lt32 n12 ty).mpr z)
        obtain ⟨r1, e1, h⟩ := wb_b h
        obtain ⟨r2, e2, k⟩ := wb_b k
        have q2 : r2 = r1 := Option.some.inj (e2.symm.trans e1)
        obtain ⟨r3, e3, g⟩ := wb_b g
        rw [i98] at e3
        have q3 := at_eq er e1 e3
        rw [q2] at k
        rw [← q3] at g
        rcases ifr h with ⟨d, h⟩ | ⟨d, h⟩
        · have g := wb_t d g
          have k := wb_t d k
          obtain ⟨u1, f1, h⟩ := wb_v h
          obtain ⟨u2, f2, k⟩ := wb_v k
          obtain ⟨u3, f3, g⟩ := wb_v g
          rw [f1, nI_1] at h
          rw [f2, nI_1] at k
          rw [f3, nI_1] at g
          exact ih fu2 fv (y + 1) v1 v2 v3 a1 a2 a3 h k g (by omega) (by omega) hv
        · have g := wb_f d g
          have k := wb_f d k
          obtain ⟨u1, f1, h⟩ := wb_v h
          obtain ⟨u2, f2, h⟩ := wb_v h
          rw [f1, f2, nI_1] at h
          obtain ⟨r7, e7, g⟩ := wb_b g
          have q7 : r7 = r := Option.some.inj (e7.symm.trans g7)
          rw [q7] at g
          obtain ⟨r4, e4, g⟩ := wb_b g
          obtain ⟨r5, e5, k⟩ := wb_b k
          have q4 := hh (nI y) r5 r4 ⟨by omega, by omega⟩ e5 e4
          rw [← q4] at g
          rcases ifr k with ⟨d2, k⟩ | ⟨d2, k⟩
          · have g := wb_t d2 g
            obtain ⟨u3, f3, k⟩ := wb_v k
            obtain ⟨u4, f4, g⟩ := wb_v g
            obtain ⟨u5, f5, g⟩ := wb_v g
            rw [f3, nI_1] at k
            rw [f4, f5, nI_1] at g
            exact ih fu2 fv (y + 1) (v1 + 1) v2 (v3 + 1) a1 a2 a3 h k g (by omega) (by omega) (by rw [hv, s32s])
          · have g := wb_f d2 g
            obtain ⟨u3, f3, k⟩ := wb_v k
            obtain ⟨u4, f4, k⟩ := wb_v k
            obtain ⟨u5, f5, g⟩ := wb_v g
            rw [f3, f4, nI_1] at k
            rw [f5, nI_1] at g
            exact ih fu2 fv (y + 1) (v1 + 1) (v2 + 1) v3 a1 a2 a3 h k g (by omega) (by omega) (by rw [hv]; exact s32t v1 v2)
theorem ag_eq {N N2 : Nat} {I I1 J : Nat → Int32} {L : Int64} {M m1 K : Nat → Nat → Int32} {n w x r a1 a2 a3 : Int32} (er : EnR M K) (f7 : fX1_degreeOf N I (wb_sh M 13) n 7 = some r) (g7 : fX12_at N2 J L K n 7 = some r) (hh : ∀ y b c, 1 ≤ y.toInt ∧ y.toInt ≤ 12 → fX2_houseDegree N I1 m1 r w x y = some b → fX12_houseAt N2 J L K r w x y = some c → b = c) (h : fX1_howManyHouses N I (wb_sh M 13) n = some a1) (k : fX1_howManyDiffer N I (wb_sh M 13) I1 m1 n w x = some a2) (g : fX12_agrees N2 J L K n w x = some a3) : a3 = a1 - a2 := by
  unfold fX1_howManyDiffer at k
  obtain ⟨r1, e1, k⟩ := wb_b k
  have q : r1 = r := Option.some.inj (e1.symm.trans f7)
  rw [q] at k
  exact ag_l er g7 hh N N N2 1 0 0 0 a1 a2 a3 h k g (by omega) (by omega) (by decide)
theorem ht_l {N N2 : Nat} {I J : Nat → Int32} {L : Int64} {M K : Nat → Nat → Int32} {n : Int32} (er : EnR M K) : ∀ (fu fv : Nat) (y v a b : Int32), fX1_howManyHouses_L4 N I (wb_sh M 13) n fu v y = some a → fX12_housesTold_L4 N2 J L K n fv v y = some b → a = b := by
  intro fu
  induction fu with
  | zero => intro fv y v a b h; cases (show none = some a from h)
  | succ fu ih =>
    intro fv y v a b h g
    cases fv with
    | zero => cases (show none = some b from g)
    | succ fv =>
      rw [fX1_howManyHouses_L4.eq_2] at h
      rw [fX12_housesTold_L4.eq_2] at g
      rcases ifr h with ⟨c, h⟩ | ⟨c, h⟩
      · rw [← Option.some.inj (wb_t c g), ← Option.some.inj h]
      · have g := wb_f c g
        obtain ⟨r1, e1, h⟩ := wb_b h
        obtain ⟨r3, e3, g⟩ := wb_b g
        rw [i98] at e3
        have q3 := at_eq er e1 e3
        rw [← q3] at g
        rcases ifr h with ⟨d, h⟩ | ⟨d, h⟩
        · have g := wb_t d g
          obtain ⟨u1, f1, h⟩ := wb_v h
          obtain ⟨u2, f2, g⟩ := wb_v g
          obtain ⟨u3, f3, g⟩ := wb_v g
          rw [f1] at h
          rw [f2, f3, z32] at g
          exact ih fv _ v a b h g
        · have g := wb_f d g
          obtain ⟨u1, f1, h⟩ := wb_v h
          obtain ⟨u2, f2, h⟩ := wb_v h
          obtain ⟨u3, f3, g⟩ := wb_v g
          obtain ⟨u4, f4, g⟩ := wb_v g
          rw [f1, f2] at h
          rw [f3, f4] at g
          exact ih fv _ _ a b h g
theorem sub0 {a b c : Int32} (h : c = a - b) : c = a ↔ b = 0 := by
  constructor
  · intro q
    rw [q] at h
    have h2 := congrArg (fun z => z + b) h
    simp only [Int32.sub_add_cancel] at h2
    have h3 : b + a = 0 + a := by rw [Int32.add_comm, h2, Int32.add_comm, Int32.add_zero]
    exact ac32 h3
  · intro q
    rw [h, q, Int32.sub_zero]
/-! THE LOT alike -/
/-! what can be -/
theorem hash_l {N N2 : Nat} {I J : Nat → Int32} {L : Int64} {m K : Nat → Nat → Int32} {x n sun rise : Int32} {c : Nat} (hc : CL (m 0) (K 4) c) (hx : x.toInt = (c : Int)) (hs : 0 ≤ sun.toInt ∧ sun.toInt ≤ 359) (g0 : fX12_at N2 J L K n 0 = some sun) (g7 : fX12_at N2 J L K n 7 = some rise) {x1 x2 v6 y1 r : Int32} {g88 : (Nat → Int32) → Int64 → (Nat → Nat → Int32) → Int32 → Int32 → Option (Int32 × (Nat → Int32) × Int64 × (Nat → Nat → Int32))} {g126 : (Nat → Int32) → Int64 → (Nat → Nat → Int32) → Int32 → Int32 → Int32 → Option (Int32 × (Nat → Int32) × Int64 × (Nat → Nat → Int32))} : ∀ (fu fv y : Nat) (a : Int32) S, fX2_hasHour_L3 N I m x sun rise fu (nI y) = some a → fX12_possible_L164 N2 x1 x2 1 r v6 y1 x n g88 g126 fv J L K 0 (nI y) = some S → y ≤ 360 → (a = 0 ∨ a = 1) ∧ fX12_possible_J208 N2 x1 x2 1 r n g88 g126 J L K v6 y1 x a = some S := by
  have one : ∀ (fv : Nat) (y : Int32) S, fX12_possible_L164 N2 x1 x2 1 r v6 y1 x n g88 g126 fv J L K 1 y = some S → fX12_possible_J208 N2 x1 x2 1 r n g88 g126 J L K v6 y1 x 1 = some S := by
    intro fv
    induction fv with
    | zero => intro y S g; cases (show none = some S from g)
    | succ fv ih =>
      intro y S g
      rw [fX12_possible_L164.eq_2] at g
      rcases ifr g with ⟨c, g⟩ | ⟨c, g⟩
      · exact g
      · have g := wb_f (c := (1 : Int32) = 0) (by decide) (wb_t (c := (1 : Int32) = 1) rfl g)
        obtain ⟨w, ew, g⟩ := wb_v g
        exact ih w S g
  intro fu
  induction fu with
  | zero => intro fv y a S h; cases (show none = some a from h)
  | succ fu ih =>
    intro fv y a S h g hy
    cases fv with
    | zero => cases (show none = some S from g)
    | succ fv =>
      rw [fX2_hasHour_L3.eq_2] at h
      rw [fX12_possible_L164.eq_2] at g
      have ty : (nI y).toInt = (y : Int) := nI_toInt (by omega)
      rcases ifr h with ⟨c, h⟩ | ⟨c, h⟩
      · have g := wb_t c g
        rw [← Option.some.inj h]
        exact ⟨Or.inl rfl, g⟩
      · have g := wb_t (c := (0 : Int32) = 0) rfl (wb_t (c := (1 : Int32) = 1) rfl (wb_f c g))
        have c : ¬ _ := fun z => c ((le32 n360 ty).mpr z)
        obtain ⟨r1, f1, h⟩ := wb_b h
        obtain ⟨s1, d1, g⟩ := wb_b g
        obtain ⟨e, e2⟩ := hr_eq hc hx ⟨by omega, by omega⟩ hs g0 g7 f1 d1
        rw [← e] at g
        rcases ifr h with ⟨c1, h⟩ | ⟨c1, h⟩
        · have g := wb_t c1 g
          obtain ⟨u1, f1, h⟩ := wb_v h
          obtain ⟨w1, d1, g⟩ := wb_v g
          rw [f1, nI_1] at h
          rw [d1, nI_1] at g
          exact ih fv (y + 1) a S h g (by omega)
        · have g := wb_f c1 g
          obtain ⟨w1, d1, g⟩ := wb_v g
          rw [← Option.some.inj h]
          exact ⟨Or.inr rfl, one fv w1 S g⟩
/-- what the reference does with a climate, ways asked for -/
theorem p164 {N2 : Nat} {J : Nat → Int32} {L : Int64} {K : Nat → Nat → Int32} {n x1 x2 v6 y1 x r : Int32} {g88 : (Nat → Int32) → Int64 → (Nat → Nat → Int32) → Int32 → Int32 → Option (Int32 × (Nat → Int32) × Int64 × (Nat → Nat → Int32))} {g126 : (Nat → Int32) → Int64 → (Nat → Nat → Int32) → Int32 → Int32 → Int32 → Option (Int32 × (Nat → Int32) × Int64 × (Nat → Nat → Int32))} {fv : Nat} {S : Int32 × (Nat → Int32) × Int64 × (Nat → Nat → Int32)} (g : fX12_possible_L164 N2 x1 x2 0 r v6 y1 x n g88 g126 fv J L K 0 0 = some S) : g126 J L K v6 y1 (x + 1) = some S := by
  cases fv with
  | zero => cases (show none = some S from g)
  | succ fv =>
    rw [fX12_possible_L164.eq_2] at g
    have g := wb_f (c := (0 : Int32) = 1) (by decide) (wb_f (c := (360 : Int32) ≤ 0) (by decide) g)
    unfold fX12_possible_J208 at g
    have g := wb_t (c := (0 : Int32) = 0) rfl g
    obtain ⟨w, ew, g⟩ := wb_v g
    rw [ew] at g
    exact g
/-- 'all houses AGREE', of both -/
noncomputable def AGQ (N N2 : Nat) (I1 : Nat → Int32) (m1 : Nat → Nat → Int32) (I : Nat → Int32) (M : Nat → Nat → Int32) (J : Nat → Int32) (L : Int64) (K : Nat → Nat → Int32) (n told : Int32) : Prop := ∀ w x a b, (w = 0 ∨ w = 1 ∨ (w = 2 ∧ 0 ≤ x.toInt ∧ x.toInt < (J 1).toInt)) → fX1_howManyDiffer N I (wb_sh M 13) I1 m1 n w x = some a → fX12_agrees N2 J L K n w x = some b → (b = told ↔ a = 0)
theorem w126 {N N2 : Nat} {I0 J : Nat → Int32} {L : Int64} {M0 K : Nat → Nat → Int32} {n told x1 x2 : Int32} {g88 : (Nat → Int32) → Int64 → (Nat → Nat → Int32) → Int32 → Int32 → Option (Int32 × (Nat → Int32) × Int64 × (Nat → Nat → Int32))} (hI : I0 9 = J 1) (j7 : (J 1).toInt ≤ 7) (hq : AGQ N N2 (wb_sh I0 9) (wb_sh M0 5) (wb_sh I0 13) M0 J L K n told) : ∀ (fu fv y : Nat) (v v2 a : Int32) S, fX11_waysThatCanBe_L52 N I0 M0 n fu v (nI y) = some a → fX12_possible_L126 N2 x1 x2 0 told n g88 fv J L K v v2 (nI y) = some S → y ≤ 7 → S = (a, J, L, K) := by
  intro fu
  induction fu with
  | zero => intro fv y v v2 a S h; cases (show none = some a from h)
  | succ fu ih =>
    intro fv y v v2 a S h g hy
    cases fv with
    | zero => cases (show none = some S from g)
    | succ fv =>
      rw [fX11_waysThatCanBe_L52.eq_2, hI] at h
      rw [fX12_possible_L126.eq_2] at g
      have ty : (nI y).toInt = (y : Int) := nI_toInt (by omega)
      rcases ifr h with ⟨c, h⟩ | ⟨c, h⟩
      · have g := wb_t (c := (0 : Int32) = 0) rfl (wb_t c g)
        rw [← Option.some.inj g, Option.some.inj h]
      · have g := wb_f c g
        have c : ¬ _ := fun z => c ((le32 rfl ty).mpr z)
        obtain ⟨r1, f1, h⟩ := wb_b h
        obtain ⟨s1, d1, g⟩ := wb_b g
        have e := hq 2 (nI y) r1 s1 (Or.inr (Or.inr ⟨rfl, by omega, by omega⟩)) f1 d1
        rcases ifr h with ⟨c1, h⟩ | ⟨c1, h⟩
        · have g := wb_t (e.mpr c1) g
          obtain ⟨u1, k1, h⟩ := wb_v h
          obtain ⟨u2, k2, h⟩ := wb_v h
          obtain ⟨w1, k3, g⟩ := wb_v g
          have g := p164 g
          rw [k1, k2, nI_1] at h
          rw [k3, nI_1] at g
          exact ih fv (y + 1) _ v2 a S h g (by omega)
        · have g := wb_f (fun z => c1 (e.mp z)) g
          obtain ⟨u1, k1, h⟩ := wb_v h
          obtain ⟨w1, k2, g⟩ := wb_v g
          rw [k1, nI_1] at h
          rw [k2, nI_1] at g
          exact ih fv (y + 1) v v2 a S h g (by omega)
theorem c126 {N N2 : Nat} {I0 J : Nat → Int32} {L : Int64} {M0 K : Nat → Nat → Int32} {n told x1 x2 sun rise : Int32} {g88 : (Nat → Int32) → Int64 → (Nat → Nat → Int32) → Int32 → Int32 → Option (Int32 × (Nat → Int32) × Int64 × (Nat → Nat → Int32))} (hI : I0 9 = J 1) (j7 : (J 1).toInt ≤ 7) (hc : ∀ c : Nat, (c : Int) < (J 1).toInt → CL (M0 5) (K 4) c) (hs : 0 ≤ sun.toInt ∧ sun.toInt ≤ 359) (g0 : fX12_at N2 J L K n 0 = some sun) (g7 : fX12_at N2 J L K n 7 = some rise) (hq : AGQ N N2 (wb_sh I0 9) (wb_sh M0 5) (wb_sh I0 13) M0 J L K n told) : ∀ (fu fv y : Nat) (v v2 a : Int32) S, fX11_climatesThatCanBe_L27 N I0 M0 n sun rise fu v (nI y) = some a → fX12_possible_L126 N2 x1 x2 1 told n g88 fv J L K v2 v (nI y) = some S → y ≤ 7 → S = (a, J, L, K) := by
  intro fu
  induction fu with
  | zero => intro fv y v v2 a S h; cases (show none = some a from h)
  | succ fu ih =>
    intro fv y v v2 a S h g hy
    cases fv with
    | zero => cases (show none = some S from g)
    | succ fv =>
      rw [fX11_climatesThatCanBe_L27.eq_2, hI] at h
      rw [fX12_possible_L126.eq_2] at g
      have ty : (nI y).toInt = (y : Int) := nI_toInt (by omega)
      rcases ifr h with ⟨c, h⟩ | ⟨c, h⟩
      · have g := wb_f (c := (1 : Int32) = 0) (by decide) (wb_t c g)
        rw [← Option.some.inj g, Option.some.inj h]
      · have g := wb_f c g
        have c : ¬ _ := fun z => c ((le32 rfl ty).mpr z)
        obtain ⟨r1, f1, h⟩ := wb_b h
        obtain ⟨s1, d1, g⟩ := wb_b g
        have e := hq 2 (nI y) r1 s1 (Or.inr (Or.inr ⟨rfl, by omega, by omega⟩)) f1 d1
        rcases ifr h with ⟨c1, h⟩ | ⟨c1, h⟩
        · have g := wb_t (e.mpr c1) g
          obtain ⟨w1, k3, g⟩ := wb_v g
          unfold fX11_climatesThatCanBe_J68 at h
          have h := wb_f (c := (1 : Int32) = 0) (by decide) h
          obtain ⟨r4, f4, h⟩ := wb_b h
          obtain ⟨q1, g⟩ := hash_l (m := wb_sh M0 5) (hc y (by omega)) ty hs g0 g7 N N2 0 r4 S f4 g (by omega)
          unfold fX12_possible_J208 at g
          rcases ifr h with ⟨c2, h⟩ | ⟨c2, h⟩
          · have g := wb_t c2 g
            obtain ⟨u1, k1, h⟩ := wb_v h
            obtain ⟨u2, k2, g⟩ := wb_v g
            rw [k1, nI_1] at h
            rw [k2, nI_1] at g
            exact ih fv (y + 1) v _ a S h g (by omega)
          · have g := wb_f c2 g
            obtain ⟨u1, k1, h⟩ := wb_v h
            obtain ⟨u2, k2, h⟩ := wb_v h
            obtain ⟨u3, k3, g⟩ := wb_v g
            obtain ⟨u4, k4, g⟩ := wb_v g
            rw [k1, k2, nI_1] at h
            rw [k3, k4, nI_1] at g
            exact ih fv (y + 1) _ _ a S h g (by omega)
        · have g := wb_f (fun z => c1 (e.mp z)) g
          unfold fX11_climatesThatCanBe_J68 at h
          have h := wb_t (c := (0 : Int32) = 0) rfl h
          obtain ⟨u1, k1, h⟩ := wb_v h
          obtain ⟨w1, k2, g⟩ := wb_v g
          rw [k1, nI_1] at h
          rw [k2, nI_1] at g
          exact ih fv (y + 1) v _ a S h g (by omega)
/-- the two ways without a climate -/
theorem w88 {N N2 : Nat} {I0 J : Nat → Int32} {L : Int64} {M0 K : Nat → Nat → Int32} {n told x1 x2 x3 d0 d1 : Int32} (hq : AGQ N N2 (wb_sh I0 9) (wb_sh M0 5) (wb_sh I0 13) M0 J L K n told) (f0 : fX1_howManyDiffer N (wb_sh I0 13) (wb_sh M0 13) (wb_sh I0 9) (wb_sh M0 5) n 0 0 = some d0) (f1 : fX1_howManyDiffer N (wb_sh I0 13) (wb_sh M0 13) (wb_sh I0 9) (wb_sh M0 5) n 1 0 = some d1) {fv : Nat} {S : Int32 × (Nat → Int32) × Int64 × (Nat → Nat → Int32)} (g : fX12_possible_L88 N2 x1 x2 x3 told n fv J L K 0 0 = some S) : ∃ (g88 : (Nat → Int32) → Int64 → (Nat → Nat → Int32) → Int32 → Int32 → Option (Int32 × (Nat → Int32) × Int64 × (Nat → Nat → Int32))), fX12_possible_L126 N2 x1 x2 x3 told n g88 N2 J L K ((if d0 = 0 then (0 : Int32) ||| 1 else 0) ||| (if d1 = 0 then (2 : Int32) else 0)) 0 0 = some S := by
  have a0 : (0 : Int32) ||| ((1 : Int32) <<< (0 &&& 31)) = 1 := by decide
  have fin : ∀ (fv : Nat) (v : Int32), fX12_possible_L88 N2 x1 x2 x3 told n fv J L K v 2 = some S → ∃ (g88 : (Nat → Int32) → Int64 → (Nat → Nat → Int32) → Int32 → Int32 → Option (Int32 × (Nat → Int32) × Int64 × (Nat → Nat → Int32))), fX12_possible_L126 N2 x1 x2 x3 told n g88 N2 J L K v 0 0 = some S := by
    intro fv v g
    cases fv with
    | zero => cases (show none = some S from g)
    | succ fv =>
      rw [fX12_possible_L88.eq_2] at g
      exact ⟨_, wb_t (c := (2 : Int32) ≤ 2) (by decide) g⟩
  have snd : ∀ (fv : Nat) (v : Int32), (v = 0 ∨ v = 1) → fX12_possible_L88 N2 x1 x2 x3 told n fv J L K v 1 = some S → ∃ (g88 : (Nat → Int32) → Int64 → (Nat → Nat → Int32) → Int32 → Int32 → Option (Int32 × (Nat → Int32) × Int64 × (Nat → Nat → Int32))), fX12_possible_L126 N2 x1 x2 x3 told n g88 N2 J L K (v ||| (if d1 = 0 then (2 : Int32) else 0)) 0 0 = some S := by
    intro fv v hv g
    cases fv with
    | zero => cases (show none = some S from g)
    | succ fv =>
      rw [fX12_possible_L88.eq_2] at g
      have g := wb_f (c := (2 : Int32) ≤ 1) (by decide) g
      obtain ⟨r, e, g⟩ := wb_b g
      have q := hq 1 0 d1 r (Or.inr (Or.inl rfl)) f1 e
      rcases ifr g with ⟨c, g⟩ | ⟨c, g⟩
      · obtain ⟨w1, k1, g⟩ := wb_v g
        obtain ⟨w2, k2, g⟩ := wb_v g
        rw [k1, k2, show (1 : Int32) + 1 = 2 from by decide, show (1 : Int32) <<< ((1 : Int32) &&& 31) = 2 from by decide] at g
        rw [if_pos (q.mp c)]
        exact fin fv _ g
      · obtain ⟨w1, k1, g⟩ := wb_v g
        rw [k1, show (1 : Int32) + 1 = 2 from by decide] at g
        rw [if_neg (fun z => c (q.mpr z)), show v ||| (0 : Int32) = v from by rcases hv with z | z <;> rw [z] <;> decide]
        exact fin fv _ g
  cases fv with
  | zero => cases (show none = some S from g)
  | succ fv =>
    rw [fX12_possible_L88.eq_2] at g
    have g := wb_f (c := (2 : Int32) ≤ 0) (by decide) g
    obtain ⟨r, e, g⟩ := wb_b g
    have q := hq 0 0 d0 r (Or.inl rfl) f0 e
    rcases ifr g with ⟨c, g⟩ | ⟨c, g⟩
    · obtain ⟨w1, k1, g⟩ := wb_v g
      obtain ⟨w2, k2, g⟩ := wb_v g
      rw [k1, k2, a0, show (0 : Int32) + 1 = 1 from by decide] at g
      rw [if_pos (q.mp c), show (0 : Int32) ||| 1 = 1 from by decide]
      exact snd fv 1 (Or.inr rfl) g
    · obtain ⟨w1, k1, g⟩ := wb_v g
      rw [k1, show (0 : Int32) + 1 = 1 from by decide] at g
      rw [if_neg (fun z => c (q.mpr z))]
      exact snd fv 0 (Or.inl rfl) g
/-! SEARCHES of both -/
theorem ni1 : (1 : Int32).toInt = 1 := by decide
theorem ni0 : (0 : Int32).toInt = 0 := by decide
theorem nim1 : (-1 : Int32).toInt = -1 := by decide
noncomputable def QS (i m0 k : Nat → Int32) : Prop := i 1 = k 0 ∧ i 2 = k 1 ∧ i 3 = k 2 ∧ (0 ≤ (i 1).toInt ∧ (i 1).toInt ≤ 119) ∧ (0 ≤ (i 2).toInt ∧ (i 2).toInt ≤ 3) ∧ (0 ≤ (i 3).toInt ∧ (i 3).toInt ≤ 1000001) ∧ ((i 4 = 1000 ∧ i 5 = 0 ∧ i 6 = -1 ∧ k 3 = -1 ∧ k 4 = 0 ∧ k 5 = -1 ∧ k 6 = -1) ∨ (i 4 = k 3 ∧ (0 ≤ (i 4).toInt ∧ (i 4).toInt ≤ 93) ∧ i 5 = k 4 ∧ 1 ≤ (i 5).toInt ∧ (i 5).toInt ≤ (i 3).toInt ∧ m0 0 = k 5 ∧ i 6 = k 6))
/-! ERRORS of both -/
noncomputable def bb (p q r s : Bool) : Int32 := nI ((if p then 1 else 0) + (if q then 2 else 0) + (if r then 4 else 0) + (if s then 8 else 0))
/-- what a WANDERER adds -/
noncomputable def ecf (c : Int32) : Int32 := if c = -1 then 0 else 1
noncomputable def scf (s c : Int32) : Int32 := if c = -1 then 0 else if ((c >>> (s &&& 31)) &&& 1) = 1 then 1 else 0
noncomputable def acf (s c : Int32) : Int32 := if c = ((1 : Int32) <<< (s &&& 31)) then 1 else 0
noncomputable def wcf (s c : Int32) : Int32 := if scf s c = 0 then 0 else if (fJ6_bitCount_0f7a4 0 c).getD 0 ≤ 0 then 0 else 6 / (fJ6_bitCount_0f7a4 0 c).getD 0
/-! the reference's rows -/
noncomputable def up3 (K : Nat → Nat → Int32) (s : Nat) (p : Bool) (b : Int32) : Nat → Nat → Int32 := if p then wb_um (wb_um (wb_um K 20 s (K 20 s + 1)) 21 s (K 21 s + (if b = 1 then 1 else 0))) 22 s (K 22 s + 6 / b) else K
theorem up3_v {K : Nat → Nat → Int32} {s : Nat} {p : Bool} {b : Int32} (t : Nat) : up3 K s p b 20 t = (if t = s then K 20 t + (if p then 1 else 0) else K 20 t) ∧ up3 K s p b 21 t = (if t = s then K 21 t + (if p then (if b = 1 then 1 else 0) else 0) else K 21 t) ∧ up3 K s p b 22 t = (if t = s then K 22 t + (if p then 6 / b else 0) else K 22 t) := by
  unfold up3
  cases p with
  | false =>
    simp only [Bool.false_eq_true, if_false, z32, ite_self]
    exact ⟨trivial, trivial, trivial⟩
  | true =>
    simp only [if_true]
    refine ⟨?_, ?_, ?_⟩
    · show upd (K 20) s (K 20 s + 1) t = _
      unfold upd
      by_cases e : t = s
      · rw [if_pos e, if_pos e, e]
      · rw [if_neg e, if_neg e]
    · show upd (K 21) s (K 21 s + (if b = 1 then 1 else 0)) t = _
      unfold upd
      by_cases e : t = s
      · rw [if_pos e, if_pos e, e]
      · rw [if_neg e, if_neg e]
    · show upd (K 22) s (K 22 s + 6 / b) t = _
      unfold upd
      by_cases e : t = s
      · rw [if_pos e, if_pos e, e]
      · rw [if_neg e, if_neg e]
/-- a WANDERER's part in the rows: eight cases -/
theorem cod (q r s : Bool) : ecf (bb false q r s) = 1 ∧ (scf 1 (bb false q r s) = (if q then 1 else 0) ∧ scf 2 (bb false q r s) = (if r then 1 else 0) ∧ scf 3 (bb false q r s) = (if s then 1 else 0)) ∧ (∀ b : Int32, b = (0 : Int32) + (if q then 1 else 0) + (if r then 1 else 0) + (if s then 1 else 0) → (acf 1 (bb false q r s) = (if q then (if b = 1 then 1 else 0) else 0) ∧ acf 2 (bb false q r s) = (if r then (if b = 1 then 1 else 0) else 0) ∧ acf 3 (bb false q r s) = (if s then (if b = 1 then 1 else 0) else 0)) ∧ (wcf 1 (bb false q r s) = (if q then 6 / b else 0) ∧ wcf 2 (bb false q r s) = (if r then 6 / b else 0) ∧ wcf 3 (bb false q r s) = (if s then 6 / b else 0))) := by
  refine ⟨?_, ?_, fun b hb => ?_⟩
  · revert q r s; decide +kernel
  · revert q r s; decide +kernel
  · subst hb
    revert q r s; decide +kernel
theorem cod0 : ecf (-1) = 0 ∧ (scf 1 (-1) = 0 ∧ scf 2 (-1) = 0 ∧ scf 3 (-1) = 0) ∧ (acf 1 (-1) = 0 ∧ acf 2 (-1) = 0 ∧ acf 3 (-1) = 0) ∧ (wcf 1 (-1) = 0 ∧ wcf 2 (-1) = 0 ∧ wcf 3 (-1) = 0) := by decide +kernel
/-- the reference's rows hold the sums of the class's codes -/
noncomputable def EV (m : Nat → Int32) (K : Nat → Nat → Int32) (v : Int32) (k : Nat) : Prop := v = sm2 (fun j => ecf (m j)) k ∧ (K 20 1 = sm2 (fun j => scf 1 (m j)) k ∧ K 20 2 = sm2 (fun j => scf 2 (m j)) k ∧ K 20 3 = sm2 (fun j => scf 3 (m j)) k) ∧ (K 21 1 = sm2 (fun j => acf 1 (m j)) k ∧ K 21 2 = sm2 (fun j => acf 2 (m j)) k ∧ K 21 3 = sm2 (fun j => acf 3 (m j)) k) ∧ (K 22 1 = sm2 (fun j => wcf 1 (m j)) k ∧ K 22 2 = sm2 (fun j => wcf 2 (m j)) k ∧ K 22 3 = sm2 (fun j => wcf 3 (m j)) k)
theorem EV.zero {m : Nat → Int32} {K : Nat → Nat → Int32} {v : Int32} {k : Nat} (h : EV m K v k) (hc : m k = -1) : EV m K v (k + 1) := by
  obtain ⟨a, ⟨b1, b2, b3⟩, ⟨c1, c2, c3⟩, d1, d2, d3⟩ := h
  obtain ⟨q, ⟨r1, r2, r3⟩, ⟨s1, s2, s3⟩, t1, t2, t3⟩ := cod0
  have e : ∀ f : Int32 → Int32, f (-1) = 0 → sm2 (fun j => f (m j)) (k + 1) = sm2 (fun j => f (m j)) k := by
    intro f hf
    show sm2 (fun j => f (m j)) k + f (m k) = _
    rw [hc, hf, z32]
  exact ⟨by rw [e ecf q]; exact a, ⟨by rw [e (scf 1) r1]; exact b1, by rw [e (scf 2) r2]; exact b2, by rw [e (scf 3) r3]; exact b3⟩, ⟨by rw [e (acf 1) s1]; exact c1, by rw [e (acf 2) s2]; exact c2, by rw [e (acf 3) s3]; exact c3⟩, by rw [e (wcf 1) t1]; exact d1, by rw [e (wcf 2) t2]; exact d2, by rw [e (wcf 3) t3]; exact d3⟩
theorem EV.add {m : Nat → Int32} {K : Nat → Nat → Int32} {v : Int32} {k : Nat} {p q r : Bool} {b : Int32} (h : EV m K v k) (hc : m k = bb false p q r) (hb : b = (0 : Int32) + (if p then 1 else 0) + (if q then 1 else 0) + (if r then 1 else 0)) : EV m (up3 (up3 (up3 K 1 p b) 2 q b) 3 r b) (v + 1) (k + 1) := by
  obtain ⟨a, ⟨b1, b2, b3⟩, ⟨c1, c2, c3⟩, d1, d2, d3⟩ := h
  obtain ⟨x, ⟨r1, r2, r3⟩, y⟩ := cod p q r
  obtain ⟨⟨s1, s2, s3⟩, t1, t2, t3⟩ := y b hb
  have e : ∀ (f : Int32 → Int32) (z w : Int32), f (bb false p q r) = z → w = sm2 (fun j => f (m j)) k → w + z = sm2 (fun j => f (m j)) (k + 1) := by
    intro f z w hf hw
    show _ = sm2 (fun j => f (m j)) k + f (m k)
    rw [hc, hf, hw]
  have u : ∀ (j t : Nat), (j = 20 ∨ j = 21 ∨ j = 22) → (t = 1 ∨ t = 2 ∨ t = 3) → up3 (up3 (up3 K 1 p b) 2 q b) 3 r b j t = K j t + (if j = 20 then (if (if t = 1 then p else if t = 2 then q else r) then 1 else 0) else if j = 21 then (if (if t = 1 then p else if t = 2 then q else r) then (if b = 1 then 1 else 0) else 0) else (if (if t = 1 then p else if t = 2 then q else r) then 6 / b else 0)) := by
    intro j t hj ht
    have v1 := up3_v (K := K) (s := 1) (p := p) (b := b) t
    have v2 := up3_v (K := up3 K 1 p b) (s := 2) (p := q) (b := b) t
    have v3 := up3_v (K := up3 (up3 K 1 p b) 2 q b) (s := 3) (p := r) (b := b) t
    rcases hj with rfl | rfl | rfl
    · rw [v3.1, v2.1, v1.1]
      rcases ht with rfl | rfl | rfl <;> simp
    · rw [v3.2.1, v2.2.1, v1.2.1]
      rcases ht with rfl | rfl | rfl <;> simp
    · rw [v3.2.2, v2.2.2, v1.2.2]
      rcases ht with rfl | rfl | rfl <;> simp
  refine ⟨e ecf 1 v x a, ⟨?_, ?_, ?_⟩, ⟨?_, ?_, ?_⟩, ?_, ?_, ?_⟩
  · rw [u 20 1 (by omega) (by omega)]; exact e (scf 1) _ _ r1 b1
  · rw [u 20 2 (by omega) (by omega)]; exact e (scf 2) _ _ r2 b2
  · rw [u 20 3 (by omega) (by omega)]; exact e (scf 3) _ _ r3 b3
  · rw [u 21 1 (by omega) (by omega)]; exact e (acf 1) _ _ s1 c1
  · rw [u 21 2 (by omega) (by omega)]; exact e (acf 2) _ _ s2 c2
  · rw [u 21 3 (by omega) (by omega)]; exact e (acf 3) _ _ s3 c3
  · rw [u 22 1 (by omega) (by omega)]; exact e (wcf 1) _ _ t1 d1
  · rw [u 22 2 (by omega) (by omega)]; exact e (wcf 2) _ _ t2 d2
  · rw [u 22 3 (by omega) (by omega)]; exact e (wcf 3) _ _ t3 d3
/-! ahead of the answers -/
theorem dg_rg {N : Nat} {J : Nat → Int32} {L : Int64} {K : Nat → Nat → Int32} {b w e r : Int32} (en : EN (K 7)) (rg : ∀ j : Nat, -1 ≤ (K 7 j).toInt ∧ (K 7 j).toInt ≤ 389) (hb : 0 ≤ b.toInt ∧ b.toInt ≤ 5) (hw : 0 ≤ w.toInt ∧ w.toInt ≤ 19) (he : 0 ≤ e.toInt ∧ e.toInt ≤ 20) (h : fX12_at N J L K ((20 : Int32) * b + w) e = some r) : (-1 ≤ r.toInt ∧ r.toInt ≤ 359) ∧ (¬ r = -1 → 0 ≤ r.toInt ∧ r.toInt ≤ 359) := by
  unfold fX12_at at h
  obtain ⟨-, h⟩ := wb_n h
  have t20 : (20 : Int32).toInt = 20 := by decide
  have t22 : (22 : Int32).toInt = 22 := by decide
  have m1 := ia_mul 20 20 t20 b (by omega) (by omega)
  have s1 := ia_add ((20 : Int32) * b) w (by omega) (by omega)
  have m2 := ia_mul 22 22 t22 ((20 : Int32) * b + w) (by omega) (by omega)
  have s2 := ia_add ((22 : Int32) * ((20 : Int32) * b + w)) e (by omega) (by omega)
  have idx : ((22 : Int32) * ((20 : Int32) * b + w) + e).toNatClampNeg = 22 * (20 * b.toInt.toNat + w.toInt.toNat) + e.toInt.toNat := by rw [cl32, s2, m2, s1, m1]; omega
  rw [idx] at h
  have a := en (20 * b.toInt.toNat + w.toInt.toNat) e.toInt.toNat (by omega)
  have c := rg (22 * (20 * b.toInt.toNat + w.toInt.toNat) + e.toInt.toNat)
  rw [Option.some.inj h] at a c
  refine ⟨⟨c.1, a⟩, fun hn => ⟨Int.not_lt.mp (fun z => hn ?_), a⟩⟩
  apply t32
  rw [nim1]
  omega
/-- the latest BEST of both -/
noncomputable def QBR (I : Nat → Int32) (M : Nat → Nat → Int32) (J : Nat → Int32) (K : Nat → Nat → Int32) : Prop := (I 13 = 0 ∧ J 15 = -1) ∨ (I 13 = 1 ∧ I 18 = J 15 ∧ 1 ≤ (I 18).toInt ∧ ∀ j : Nat, j < 20 → (j : Int) < (I 18).toInt → M 16 j = K 17 j)
theorem QBR.cg {I I' J J' : Nat → Int32} {M M' K K' : Nat → Nat → Int32} (h : QBR I M J K) (a : I' 13 = I 13) (b : I' 18 = I 18) (c : M' 16 = M 16) (d : J' 15 = J 15) (e : K' 17 = K 17) : QBR I' M' J' K' := by
  unfold QBR at h ⊢
  rw [a, b, c, d, e]
  exact h
/-! SEARCH, image, LEAVES, outcomes: relations and answers -/
noncomputable def QSR (I : Nat → Int32) (M : Nat → Nat → Int32) (J : Nat → Int32) (K : Nat → Nat → Int32) : Prop := I 27 = J 16 ∧ (¬ I 27 = 0 → QS (wb_sh I 27) (M 18) (K 18))
noncomputable def QIR (I : Nat → Int32) (M : Nat → Nat → Int32) (J : Nat → Int32) (K : Nat → Nat → Int32) : Prop := I 34 = J 17 ∧ (¬ I 34 = 0 → QS (wb_sh I 34) (M 19) (K 19))
noncomputable def QL (I : Nat → Int32) (M : Nat → Nat → Int32) (J : Nat → Int32) (K : Nat → Nat → Int32) : Prop := ∀ b : Nat, b < 6 → M 24 b = K 27 b ∧ ∀ i : Nat, (i : Int) < (K 27 b).toInt → M 23 (20 * b + i) = K 28 (20 * b + i)
noncomputable def QO (I : Nat → Int32) (M : Nat → Nat → Int32) (J : Nat → Int32) (K : Nat → Nat → Int32) : Prop := OR M K
theorem QS.cg {i i' m m' k : Nat → Int32} (h : QS i m k) (a : ∀ j, j < 7 → i' j = i j) (b : m' 0 = m 0) : QS i' m' k := by
  unfold QS at h ⊢
  rw [a 1 (by omega), a 2 (by omega), a 3 (by omega), a 4 (by omega), a 5 (by omega), a 6 (by omega), b]
  exact h
theorem QSR.cg {I I' J J' : Nat → Int32} {M M' K K' : Nat → Nat → Int32} (h : QSR I M J K) (a : ∀ j, j < 34 → 27 ≤ j → I' j = I j) (c : M' 18 = M 18) (d : J' 16 = J 16) (e : K' 18 = K 18) : QSR I' M' J' K' := by
  unfold QSR at h ⊢
  rw [a 27 (by omega) (by omega), c, d, e]
  exact ⟨h.1, fun z => (h.2 z).cg (fun j hj => a (j + 27) (by omega) (by omega)) rfl⟩
theorem QIR.cg {I I' J J' : Nat → Int32} {M M' K K' : Nat → Nat → Int32} (h : QIR I M J K) (a : ∀ j, j < 41 → 34 ≤ j → I' j = I j) (c : M' 19 = M 19) (d : J' 17 = J 17) (e : K' 19 = K 19) : QIR I' M' J' K' := by
  unfold QIR at h ⊢
  rw [a 34 (by omega) (by omega), c, d, e]
  exact ⟨h.1, fun z => (h.2 z).cg (fun j hj => a (j + 34) (by omega) (by omega)) rfl⟩
theorem QL.cg {I I' J J' : Nat → Int32} {M M' K K' : Nat → Nat → Int32} (h : QL I M J K) (a : M' 23 = M 23) (b : M' 24 = M 24) (c : K' 27 = K 27) (d : K' 28 = K 28) : QL I' M' J' K' := by
  unfold QL at h ⊢
  rw [a, b, c, d]
  exact h
theorem QO.cg {I I' J J' : Nat → Int32} {M M' K K' : Nat → Nat → Int32} (h : QO I M J K) (a : M' 28 = M 28) (b : M' 29 = M 29) (c : M' 30 = M 30) (d : K' 32 = K 32) (e : K' 33 = K 33) (f : K' 34 = K 34) : QO I' M' J' K' := by
  unfold QO OR at h ⊢
  rw [a, b, c, d, e, f]
  exact h
/-! DAYS that are kept -/
/-! LEAVES -/
/-! how many -/
theorem an_possible {N : Nat} (hN : 3000000000 ≤ N) {I0 I1 : Nat → Int32} {M0 M1 : Nat → Nat → Int32} {L1 : Int64} {x1 x2 x3 : Int32} {o : Nat → Int64} {r : Int32 × (Nat → Int32) × (Nat → Nat → Int32) × (Nat → Int64)} {s : Int32 × (Nat → Int32) × Int64 × (Nat → Nat → Int32)} (k0 : KX11 I0 M0) (k1 : KX12 I1 M1) (e1 : fL_possible N I0 M0 x1 x2 x3 o = some r) (e3 : fX12_possible N I1 L1 M1 x1 x2 x3 = some s) (hr : RR I0 M0 I1 M1) : s.2.1 0 = r.1 ∧ (r.1 = 0 → r.2.2.2 0 = s.1.toInt64) := by
  unfold fL_possible at e1
  have hr0 := hr.j0 0
  have u1 : (upd I1 0 0 1).toInt = (I1 1).toInt := rfl
  have ht := hr.2.2
  have er := hr.2.1
  have h91 := congrArg Int32.toInt ht.1
  have u2 : (((1 : Int32), upd I1 0 0, L1, M1).snd.fst 1).toInt = (I1 1).toInt := rfl
  have i9 := k0.i9
  have key : ∀ q, fX11_possible N I0 M0 x1 x2 x3 = some q → (q = .inl 1 ∧ s.2.1 0 = 1) ∨ ∃ a, q = .inr a ∧ s.2.1 0 = 0 ∧ a = s.1 := by
    intro q h
    unfold fX11_possible at h
    rcases xbi h with ⟨k2, h13, h⟩ | ⟨n4, h13, h⟩
    · rcases nb11 h13 with ⟨-, z6⟩ | ⟨cb5, z6⟩
      · cases z6
      · have z6 := Sum.inl.inj z6
        rw [z6] at h
        unfold BW at cb5
        have g := e3
        unfold fX12_possible at g
        obtain ⟨r7, e8, g⟩ := wb_b g
        rcases iw12 e8 with ⟨c10, q9⟩ | ⟨c10, q9⟩
        · subst q9
          unfold BW at c10
          have g := wb_f (c := (1 : Int32) = 0) (by decide) g
          rcases ifr g with ⟨c11, g⟩ | ⟨c11, g⟩
          · have c11 := (eq32 rfl (by decide : (0 : Int32).toInt = 0)).mp c11
            unfold fX12_possible_J19 at g
            unfold fX12_possible_J24 at g
            obtain ⟨r12, e13, g⟩ := wb_b g
            rcases rt12 rfl (by decide) e13 with ⟨c15, q14⟩ | ⟨c15, q14⟩
            · subst q14
              have g := wb_f (c := (1 : Int32) = 0) (by decide) g
              exfalso
              omega
            · exact absurd c15 (show ¬ (1 : Int32) = 0 by decide)
          · have c11 : ¬ _ := fun z => c11 ((eq32 rfl (by decide : (0 : Int32).toInt = 0)).mpr z)
            rcases ifr g with ⟨c16, g⟩ | ⟨c16, g⟩
            · have c16 := (eq32 rfl (by decide : (1 : Int32).toInt = 1)).mp c16
              unfold fX12_possible_J19 at g
              unfold fX12_possible_J24 at g
              obtain ⟨r17, e18, g⟩ := wb_b g
              rcases rt12 rfl (by decide) e18 with ⟨c20, q19⟩ | ⟨c20, q19⟩
              · subst q19
                have g := wb_f (c := (1 : Int32) = 0) (by decide) g
                exfalso
                omega
              · exact absurd c20 (show ¬ (1 : Int32) = 0 by decide)
            · have c16 : ¬ _ := fun z => c16 ((eq32 rfl (by decide : (1 : Int32).toInt = 1)).mpr z)
              unfold fX12_possible_J24 at g
              obtain ⟨r21, e22, g⟩ := wb_b g
              rcases rt12 rfl (by decide) e22 with ⟨c24, q23⟩ | ⟨c24, q23⟩
              · exact absurd rfl c24
              · subst q23
                have g := wb_t (c := (0 : Int32) = 0) rfl g
                have g := Option.some.inj g
                subst g
                exact Or.inl ⟨h, rfl⟩
        · subst q9
          unfold BW at c10
          have g := wb_t (c := (0 : Int32) = 0) rfl g
          have g := Option.some.inj g
          subst g
          exact Or.inl ⟨h, rfl⟩
    · rcases nb11 h13 with ⟨cb5, z6⟩ | ⟨-, z6⟩
      · have z6 := Sum.inr.inj z6
        rw [z6] at h
        unfold BW at cb5
        obtain ⟨r25, e26, h⟩ := wb_b h
        rcases ck_within (0) (1) (by decide) (by decide) e26 with ⟨q27, c28⟩ | ⟨q27, c28⟩
        · rcases nd11 h with ⟨c29, h⟩ | ⟨c29, h⟩
          · exact absurd c29 (by rw [q27]; decide)
          · obtain ⟨a, ha, h⟩ := oki h
            have g := e3
            unfold fX12_possible at g
            obtain ⟨r30, e31, g⟩ := wb_b g
            rcases iw12 e31 with ⟨c33, q32⟩ | ⟨c33, q32⟩
            · subst q32
              unfold BW at c33
              have g := wb_f (c := (1 : Int32) = 0) (by decide) g
              rcases ifr g with ⟨c34, g⟩ | ⟨c34, g⟩
              · have c34 := (eq32 rfl (by decide : (0 : Int32).toInt = 0)).mp c34
                unfold fX12_possible_J19 at g
                unfold fX12_possible_J24 at g
                obtain ⟨r35, e36, g⟩ := wb_b g
                rcases rt12 rfl (by decide) e36 with ⟨c38, q37⟩ | ⟨c38, q37⟩
                · subst q37
                  have g := wb_f (c := (1 : Int32) = 0) (by decide) g
                  obtain ⟨v17, ev17, g⟩ := wb_v g
                  rw [ev17] at g
                  clear ev17 v17
                  obtain ⟨b7, g7, g⟩ := wb_b g
                  obtain ⟨a7, f7, h⟩ := wb_b h
                  have e7 := at_eq er f7 g7
                  rw [← e7] at g g7
                  rcases ifr h with ⟨k, h⟩ | ⟨k, h⟩
                  · have g := Option.some.inj (wb_t k g)
                    have h := Option.some.inj h
                    subst h
                    subst g
                    exact Or.inr ⟨_, ha, rfl, rfl⟩
                  · have g := wb_f k g
                    have rr := (dg_rg k1.een k1.m7 (by omega) (by omega) (by decide) g7).2 k
                    have nr : 0 ≤ ((20 : Int32) * x1 + x2).toInt ∧ ((20 : Int32) * x1 + x2).toInt ≤ 119 := by
                      have t20 : (20 : Int32).toInt = 20 := by decide
                      have m1 := ia_mul 20 20 t20 x1 (by omega) (by omega)
                      have s1 := ia_add ((20 : Int32) * x1) x2 (by omega) (by omega)
                      omega
                    obtain ⟨tl, ft, -⟩ := tt_fX1_howManyHouses hN (wb_sh I0 13) (wb_sh M0 13) ((20 : Int32) * x1 + x2) nr k0.s_X1_13_13
                    have hq : AGQ N N (wb_sh I0 9) (wb_sh M0 5) (wb_sh I0 13) M0 (upd I1 0 0) L1 M1 ((20 : Int32) * x1 + x2) tl := by
                      intro w x a b hw f g
                      refine sub0 (ag_eq (m1 := wb_sh M0 5) er f7 g7 (fun y b c hy f g => ho_eq (m := wb_sh M0 5) (fun w0 w1 => ?_) rr hy f g) ft f g)
                      rcases hw with z | z | ⟨z, z1, z2⟩
                      · exact absurd z w0
                      · exact absurd z w1
                      · exact ⟨x.toInt.toNat, CL.of (c := x.toInt.toNat) hr0.2.2 k1.er1 (show (x.toInt.toNat : Int) < (I1 1).toInt by omega), CL.of (c := 0) hr0.2.2 k1.er1 (show ((0 : Nat) : Int) < (I1 1).toInt by omega), by omega⟩
                    have j71 : fX12_possible_J71 N x1 x2 x3 (upd I1 0 0) L1 M1 ((20 : Int32) * x1 + x2) = some s → ∃ gg v, (x3 = 0 → ∀ d0 d1, fX1_howManyDiffer N (wb_sh I0 13) (wb_sh M0 13) (wb_sh I0 9) (wb_sh M0 5) ((20 : Int32) * x1 + x2) 0 0 = some d0 → fX1_howManyDiffer N (wb_sh I0 13) (wb_sh M0 13) (wb_sh I0 9) (wb_sh M0 5) ((20 : Int32) * x1 + x2) 1 0 = some d1 → v = ((if d0 = 0 then (0 : Int32) ||| 1 else 0) ||| (if d1 = 0 then (2 : Int32) else 0))) ∧ fX12_possible_L126 N x1 x2 x3 tl ((20 : Int32) * x1 + x2) gg N (upd I1 0 0) L1 M1 v 0 0 = some s := by
                      intro g
                      unfold fX12_possible_J71 at g
                      obtain ⟨q1, p1, g⟩ := wb_b g
                      have eq1 := ht_l er N N 1 0 tl q1 ft p1
                      rw [← eq1] at g
                      obtain ⟨d0, z0, -⟩ := tt_fX1_howManyDiffer hN (wb_sh I0 13) (wb_sh M0 13) (wb_sh I0 9) (wb_sh M0 5) ((20 : Int32) * x1 + x2) 0 0 nr k0.s_X1_13_13 k0.s_X2_9_5 (Or.inl (by decide))
                      obtain ⟨d1, z1, -⟩ := tt_fX1_howManyDiffer hN (wb_sh I0 13) (wb_sh M0 13) (wb_sh I0 9) (wb_sh M0 5) ((20 : Int32) * x1 + x2) 1 0 nr k0.s_X1_13_13 k0.s_X2_9_5 (Or.inl (by decide))
                      obtain ⟨gg, g⟩ := w88 hq z0 z1 g
                      refine ⟨gg, _, fun _ e0 e1 y0 y1 => ?_, g⟩
                      rw [Option.some.inj (z0.symm.trans y0), Option.some.inj (z1.symm.trans y1)]
                    rcases ifr h with ⟨k2, h⟩ | ⟨k2, h⟩
                    · have g := wb_f (c := x3 = 1) (by rw [k2]; decide) g
                      obtain ⟨gg, v, hv, g⟩ := j71 g
                      obtain ⟨a2, f2, h⟩ := wb_b h
                      have h := Option.some.inj h
                      subst h
                      unfold fX11_waysThatCanBe at f2
                      obtain ⟨d0, z0, f2⟩ := wb_b f2
                      have f3 : fX11_waysThatCanBe_J26 N I0 M0 ((20 : Int32) * x1 + x2) (if d0 = 0 then (0 : Int32) ||| 1 else 0) = some a2 := by
                        rcases ifr f2 with ⟨c9, f2⟩ | ⟨c9, f2⟩
                        · obtain ⟨v8, e8, f2⟩ := wb_v f2
                          rw [e8] at f2
                          rw [if_pos c9]
                          exact f2
                        · rw [if_neg c9]
                          exact f2
                      unfold fX11_waysThatCanBe_J26 at f3
                      obtain ⟨d1, z1, f3⟩ := wb_b f3
                      have f4 : fX11_waysThatCanBe_J50 N I0 M0 ((20 : Int32) * x1 + x2) ((if d0 = 0 then (0 : Int32) ||| 1 else 0) ||| (if d1 = 0 then (2 : Int32) else 0)) = some a2 := by
                        rcases ifr f3 with ⟨c9, f3⟩ | ⟨c9, f3⟩
                        · obtain ⟨v8, e8, f3⟩ := wb_v f3
                          rw [e8] at f3
                          rw [if_pos c9]
                          exact f3
                        · rw [if_neg c9, show ∀ z : Int32, (z = 0 ∨ z = 1) → z ||| (0 : Int32) = z from fun z hz => by rcases hz with hz | hz <;> rw [hz] <;> decide]
                          · exact f3
                          · by_cases c8 : d0 = 0
                            · rw [if_pos c8]; exact Or.inr (by decide)
                            · rw [if_neg c8]; exact Or.inl rfl
                      unfold fX11_waysThatCanBe_J50 at f4
                      rw [hv k2 d0 d1 z0 z1, k2] at g
                      have w := w126 (J := upd I1 0 0) hr0.2.2.1 (show (I1 1).toInt ≤ 7 by omega) hq N N 0 _ 0 a2 s f4 g (by omega)
                      rw [w]
                      exact Or.inr ⟨_, ha, rfl, rfl⟩
                    · have c10 : ¬ _ := fun z => k2 ((eq32 rfl ni0).mpr z)
                      have x31 : x3 = 1 := t32 (by rw [ni1]; omega)
                      have g := wb_t x31 g
                      obtain ⟨b0, g0, g⟩ := wb_b g
                      obtain ⟨a0, f0, h⟩ := wb_b h
                      have e0 := at_eq er f0 g0
                      rw [← e0] at g g0
                      rcases ifr h with ⟨k3, h⟩ | ⟨k3, h⟩
                      · have g := Option.some.inj (wb_t k3 g)
                        have h := Option.some.inj h
                        subst h
                        subst g
                        exact Or.inr ⟨_, ha, rfl, rfl⟩
                      · have g := wb_f k3 g
                        obtain ⟨gg, v, -, g⟩ := j71 g
                        obtain ⟨a2, f2, h⟩ := wb_b h
                        have h := Option.some.inj h
                        subst h
                        unfold fX11_climatesThatCanBe at f2
                        obtain ⟨q0, y0, f2⟩ := wb_b f2
                        obtain ⟨q7, y7, f2⟩ := wb_b f2
                        rw [Option.some.inj (y0.symm.trans f0), Option.some.inj (y7.symm.trans f7)] at f2
                        rw [x31] at g
                        have w := c126 (J := upd I1 0 0) hr0.2.2.1 (show (I1 1).toInt ≤ 7 by omega) (fun c hc => CL.of hr0.2.2 k1.er1 hc) ((dg_rg k1.een k1.m7 (by omega) (by omega) (by decide) g0).2 k3) g0 g7 hq N N 0 0 v a2 s f2 g (by omega)
                        rw [w]
                        exact Or.inr ⟨_, ha, rfl, rfl⟩
                · exact absurd c38 (show ¬ (1 : Int32) = 0 by decide)
              · have c34 : ¬ _ := fun z => c34 ((eq32 rfl (by decide : (0 : Int32).toInt = 0)).mpr z)
                rcases ifr g with ⟨c39, g⟩ | ⟨c39, g⟩
                · have c39 := (eq32 rfl (by decide : (1 : Int32).toInt = 1)).mp c39
                  unfold fX12_possible_J19 at g
                  unfold fX12_possible_J24 at g
                  obtain ⟨r40, e41, g⟩ := wb_b g
                  rcases rt12 rfl (by decide) e41 with ⟨c43, q42⟩ | ⟨c43, q42⟩
                  · subst q42
                    have g := wb_f (c := (1 : Int32) = 0) (by decide) g
                    obtain ⟨v17, ev17, g⟩ := wb_v g
                    rw [ev17] at g
                    clear ev17 v17
                    obtain ⟨b7, g7, g⟩ := wb_b g
                    obtain ⟨a7, f7, h⟩ := wb_b h
                    have e7 := at_eq er f7 g7
                    rw [← e7] at g g7
                    rcases ifr h with ⟨k, h⟩ | ⟨k, h⟩
                    · have g := Option.some.inj (wb_t k g)
                      have h := Option.some.inj h
                      subst h
                      subst g
                      exact Or.inr ⟨_, ha, rfl, rfl⟩
                    · have g := wb_f k g
                      have rr := (dg_rg k1.een k1.m7 (by omega) (by omega) (by decide) g7).2 k
                      have nr : 0 ≤ ((20 : Int32) * x1 + x2).toInt ∧ ((20 : Int32) * x1 + x2).toInt ≤ 119 := by
                        have t20 : (20 : Int32).toInt = 20 := by decide
                        have m1 := ia_mul 20 20 t20 x1 (by omega) (by omega)
                        have s1 := ia_add ((20 : Int32) * x1) x2 (by omega) (by omega)
                        omega
                      obtain ⟨tl, ft, -⟩ := tt_fX1_howManyHouses hN (wb_sh I0 13) (wb_sh M0 13) ((20 : Int32) * x1 + x2) nr k0.s_X1_13_13
                      have hq : AGQ N N (wb_sh I0 9) (wb_sh M0 5) (wb_sh I0 13) M0 (upd I1 0 0) L1 M1 ((20 : Int32) * x1 + x2) tl := by
                        intro w x a b hw f g
                        refine sub0 (ag_eq (m1 := wb_sh M0 5) er f7 g7 (fun y b c hy f g => ho_eq (m := wb_sh M0 5) (fun w0 w1 => ?_) rr hy f g) ft f g)
                        rcases hw with z | z | ⟨z, z1, z2⟩
                        · exact absurd z w0
                        · exact absurd z w1
                        · exact ⟨x.toInt.toNat, CL.of (c := x.toInt.toNat) hr0.2.2 k1.er1 (show (x.toInt.toNat : Int) < (I1 1).toInt by omega), CL.of (c := 0) hr0.2.2 k1.er1 (show ((0 : Nat) : Int) < (I1 1).toInt by omega), by omega⟩
                      have j71 : fX12_possible_J71 N x1 x2 x3 (upd I1 0 0) L1 M1 ((20 : Int32) * x1 + x2) = some s → ∃ gg v, (x3 = 0 → ∀ d0 d1, fX1_howManyDiffer N (wb_sh I0 13) (wb_sh M0 13) (wb_sh I0 9) (wb_sh M0 5) ((20 : Int32) * x1 + x2) 0 0 = some d0 → fX1_howManyDiffer N (wb_sh I0 13) (wb_sh M0 13) (wb_sh I0 9) (wb_sh M0 5) ((20 : Int32) * x1 + x2) 1 0 = some d1 → v = ((if d0 = 0 then (0 : Int32) ||| 1 else 0) ||| (if d1 = 0 then (2 : Int32) else 0))) ∧ fX12_possible_L126 N x1 x2 x3 tl ((20 : Int32) * x1 + x2) gg N (upd I1 0 0) L1 M1 v 0 0 = some s := by
                        intro g
                        unfold fX12_possible_J71 at g
                        obtain ⟨q1, p1, g⟩ := wb_b g
                        have eq1 := ht_l er N N 1 0 tl q1 ft p1
                        rw [← eq1] at g
                        obtain ⟨d0, z0, -⟩ := tt_fX1_howManyDiffer hN (wb_sh I0 13) (wb_sh M0 13) (wb_sh I0 9) (wb_sh M0 5) ((20 : Int32) * x1 + x2) 0 0 nr k0.s_X1_13_13 k0.s_X2_9_5 (Or.inl (by decide))
                        obtain ⟨d1, z1, -⟩ := tt_fX1_howManyDiffer hN (wb_sh I0 13) (wb_sh M0 13) (wb_sh I0 9) (wb_sh M0 5) ((20 : Int32) * x1 + x2) 1 0 nr k0.s_X1_13_13 k0.s_X2_9_5 (Or.inl (by decide))
                        obtain ⟨gg, g⟩ := w88 hq z0 z1 g
                        refine ⟨gg, _, fun _ e0 e1 y0 y1 => ?_, g⟩
                        rw [Option.some.inj (z0.symm.trans y0), Option.some.inj (z1.symm.trans y1)]
                      rcases ifr h with ⟨k2, h⟩ | ⟨k2, h⟩
                      · have g := wb_f (c := x3 = 1) (by rw [k2]; decide) g
                        obtain ⟨gg, v, hv, g⟩ := j71 g
                        obtain ⟨a2, f2, h⟩ := wb_b h
                        have h := Option.some.inj h
                        subst h
                        unfold fX11_waysThatCanBe at f2
                        obtain ⟨d0, z0, f2⟩ := wb_b f2
                        have f3 : fX11_waysThatCanBe_J26 N I0 M0 ((20 : Int32) * x1 + x2) (if d0 = 0 then (0 : Int32) ||| 1 else 0) = some a2 := by
                          rcases ifr f2 with ⟨c9, f2⟩ | ⟨c9, f2⟩
                          · obtain ⟨v8, e8, f2⟩ := wb_v f2
                            rw [e8] at f2
                            rw [if_pos c9]
                            exact f2
                          · rw [if_neg c9]
                            exact f2
                        unfold fX11_waysThatCanBe_J26 at f3
                        obtain ⟨d1, z1, f3⟩ := wb_b f3
                        have f4 : fX11_waysThatCanBe_J50 N I0 M0 ((20 : Int32) * x1 + x2) ((if d0 = 0 then (0 : Int32) ||| 1 else 0) ||| (if d1 = 0 then (2 : Int32) else 0)) = some a2 := by
                          rcases ifr f3 with ⟨c9, f3⟩ | ⟨c9, f3⟩
                          · obtain ⟨v8, e8, f3⟩ := wb_v f3
                            rw [e8] at f3
                            rw [if_pos c9]
                            exact f3
                          · rw [if_neg c9, show ∀ z : Int32, (z = 0 ∨ z = 1) → z ||| (0 : Int32) = z from fun z hz => by rcases hz with hz | hz <;> rw [hz] <;> decide]
                            · exact f3
                            · by_cases c8 : d0 = 0
                              · rw [if_pos c8]; exact Or.inr (by decide)
                              · rw [if_neg c8]; exact Or.inl rfl
                        unfold fX11_waysThatCanBe_J50 at f4
                        rw [hv k2 d0 d1 z0 z1, k2] at g
                        have w := w126 (J := upd I1 0 0) hr0.2.2.1 (show (I1 1).toInt ≤ 7 by omega) hq N N 0 _ 0 a2 s f4 g (by omega)
                        rw [w]
                        exact Or.inr ⟨_, ha, rfl, rfl⟩
                      · have c10 : ¬ _ := fun z => k2 ((eq32 rfl ni0).mpr z)
                        have x31 : x3 = 1 := t32 (by rw [ni1]; omega)
                        have g := wb_t x31 g
                        obtain ⟨b0, g0, g⟩ := wb_b g
                        obtain ⟨a0, f0, h⟩ := wb_b h
                        have e0 := at_eq er f0 g0
                        rw [← e0] at g g0
                        rcases ifr h with ⟨k3, h⟩ | ⟨k3, h⟩
                        · have g := Option.some.inj (wb_t k3 g)
                          have h := Option.some.inj h
                          subst h
                          subst g
                          exact Or.inr ⟨_, ha, rfl, rfl⟩
                        · have g := wb_f k3 g
                          obtain ⟨gg, v, -, g⟩ := j71 g
                          obtain ⟨a2, f2, h⟩ := wb_b h
                          have h := Option.some.inj h
                          subst h
                          unfold fX11_climatesThatCanBe at f2
                          obtain ⟨q0, y0, f2⟩ := wb_b f2
                          obtain ⟨q7, y7, f2⟩ := wb_b f2
                          rw [Option.some.inj (y0.symm.trans f0), Option.some.inj (y7.symm.trans f7)] at f2
                          rw [x31] at g
                          have w := c126 (J := upd I1 0 0) hr0.2.2.1 (show (I1 1).toInt ≤ 7 by omega) (fun c hc => CL.of hr0.2.2 k1.er1 hc) ((dg_rg k1.een k1.m7 (by omega) (by omega) (by decide) g0).2 k3) g0 g7 hq N N 0 0 v a2 s f2 g (by omega)
                          rw [w]
                          exact Or.inr ⟨_, ha, rfl, rfl⟩
                  · exact absurd c43 (show ¬ (1 : Int32) = 0 by decide)
                · have c39 : ¬ _ := fun z => c39 ((eq32 rfl (by decide : (1 : Int32).toInt = 1)).mpr z)
                  unfold fX12_possible_J24 at g
                  obtain ⟨r44, e45, g⟩ := wb_b g
                  rcases rt12 rfl (by decide) e45 with ⟨c47, q46⟩ | ⟨c47, q46⟩
                  · exact absurd rfl c47
                  · subst q46
                    have g := wb_t (c := (0 : Int32) = 0) rfl g
                    have g := Option.some.inj g
                    subst g
                    exfalso
                    omega
            · subst q32
              unfold BW at c33
              have g := wb_t (c := (0 : Int32) = 0) rfl g
              have g := Option.some.inj g
              subst g
              exfalso
              omega
        · rcases nd11 h with ⟨c48, h⟩ | ⟨c48, h⟩
          · have g := e3
            unfold fX12_possible at g
            obtain ⟨r49, e50, g⟩ := wb_b g
            rcases iw12 e50 with ⟨c52, q51⟩ | ⟨c52, q51⟩
            · subst q51
              unfold BW at c52
              have g := wb_f (c := (1 : Int32) = 0) (by decide) g
              rcases ifr g with ⟨c53, g⟩ | ⟨c53, g⟩
              · have c53 := (eq32 rfl (by decide : (0 : Int32).toInt = 0)).mp c53
                unfold fX12_possible_J19 at g
                unfold fX12_possible_J24 at g
                obtain ⟨r54, e55, g⟩ := wb_b g
                rcases rt12 rfl (by decide) e55 with ⟨c57, q56⟩ | ⟨c57, q56⟩
                · subst q56
                  have g := wb_f (c := (1 : Int32) = 0) (by decide) g
                  exfalso
                  omega
                · exact absurd c57 (show ¬ (1 : Int32) = 0 by decide)
              · have c53 : ¬ _ := fun z => c53 ((eq32 rfl (by decide : (0 : Int32).toInt = 0)).mpr z)
                rcases ifr g with ⟨c58, g⟩ | ⟨c58, g⟩
                · have c58 := (eq32 rfl (by decide : (1 : Int32).toInt = 1)).mp c58
                  unfold fX12_possible_J19 at g
                  unfold fX12_possible_J24 at g
                  obtain ⟨r59, e60, g⟩ := wb_b g
                  rcases rt12 rfl (by decide) e60 with ⟨c62, q61⟩ | ⟨c62, q61⟩
                  · subst q61
                    have g := wb_f (c := (1 : Int32) = 0) (by decide) g
                    exfalso
                    omega
                  · exact absurd c62 (show ¬ (1 : Int32) = 0 by decide)
                · have c58 : ¬ _ := fun z => c58 ((eq32 rfl (by decide : (1 : Int32).toInt = 1)).mpr z)
                  unfold fX12_possible_J24 at g
                  obtain ⟨r63, e64, g⟩ := wb_b g
                  rcases rt12 rfl (by decide) e64 with ⟨c66, q65⟩ | ⟨c66, q65⟩
                  · exact absurd rfl c66
                  · subst q65
                    have g := wb_t (c := (0 : Int32) = 0) rfl g
                    have g := Option.some.inj g
                    subst g
                    exact Or.inl ⟨h, rfl⟩
            · subst q51
              unfold BW at c52
              have g := wb_t (c := (0 : Int32) = 0) rfl g
              have g := Option.some.inj g
              subst g
              exact Or.inl ⟨h, rfl⟩
          · exact absurd q27 c48
      · cases z6
  exact fin_1n e1 key
/-- class and reference side by side -/
def RQ (I0 : Nat → Int32) (M0 : Nat → Nat → Int32) (I1 : Nat → Int32) (M1 : Nat → Nat → Int32) : Prop := RR I0 M0 I1 M1 ∧ True
theorem RQ_fresh : RQ fx_I fx_M fm_I fm_M := ⟨RR_fresh, trivial⟩
theorem rq_feed {N : Nat} (hN : 3000000000 ≤ N) {I0 : Nat → Int32} {M0 : Nat → Nat → Int32} {I1 : Nat → Int32} {L1 : Int64} {M1 : Nat → Nat → Int32} {x1 : Int32} {x2 : Int32} {x3 : Int32} {x4 : Int32} {x5 : Int32} {r1} {r2} (e1 : fX11_feed N I0 M0 x1 x2 x3 x4 x5 = some r1) (e3 : fX12_feed N I1 L1 M1 x1 x2 x3 x4 x5 = some r2) (k0 : KX11 I0 M0) (k1 : KX12 I1 M1) (hr : RQ I0 M0 I1 M1) : RQ r1.2.1 r1.2.2 r2.2.1 r2.2.2.2 := by
  have f3 := fr_fX12_feed e3
  have f1 := fr_fX11_feed e1
  exact ⟨⟨hd_T_feed e1 e3 hr.1, hr.1.2.1.cg (f1.2 13 (by decide)) (f3.2 7 (by decide)), hr.1.2.2.cg (f1.1 9 (by decide)) (f1.1 10 (by decide)) (fun k h1 h2 => f1.2 k ((by decide : ∀ k, k < 7 → 1 ≤ k → ¬ k ∈ fwM_X11_feed) k h1 h2)) (f3.1 1 (by decide)) (f3.1 2 (by decide)) (fun k h1 => f3.2 k ((by decide : ∀ k, k < 7 → ¬ k ∈ fwM_X12_feed) k h1))⟩, trivial⟩
theorem rq_house {N : Nat} (hN : 3000000000 ≤ N) {I0 : Nat → Int32} {M0 : Nat → Nat → Int32} {I1 : Nat → Int32} {L1 : Int64} {M1 : Nat → Nat → Int32} {x1 : Int32} {o2 : Nat → Int64} {r1} {r3} (e1 : fL_house N I0 M0 x1 o2 = some r1) (e3 : fX12_house N I1 L1 M1 x1 = some r3) (k0 : KX11 I0 M0) (k1 : KX12 I1 M1) (hr : RQ I0 M0 I1 M1) : RQ r1.2.1 r1.2.2.1 r3.2.1 r3.2.2.2 := by
  have f3 := fr_fX12_house e3
  have f1 := fr_fL_house e1
  exact ⟨⟨(hs_house e1 e3 hr.1).1, hr.1.2.1.cg (f1.2 13 (by decide)) (f3.2 7 (by decide)), (hs_house e1 e3 hr.1).2⟩, trivial⟩
theorem rq_wheel {N : Nat} (hN : 3000000000 ≤ N) {I0 : Nat → Int32} {M0 : Nat → Nat → Int32} {I1 : Nat → Int32} {L1 : Int64} {M1 : Nat → Nat → Int32} {x1 : Int32} {x2 : Int32} {x3 : Int32} {o4 : Nat → Int64} {r1} {r3} (e1 : fL_wheel N I0 M0 x1 x2 x3 o4 = some r1) (e3 : fX12_wheel N I1 L1 M1 x1 x2 x3 = some r3) (k0 : KX11 I0 M0) (k1 : KX12 I1 M1) (hr : RQ I0 M0 I1 M1) : RQ r1.2.1 r1.2.2.1 r3.2.1 r3.2.2.2 := by
  have f3 := fr_fX12_wheel e3
  have f1 := fr_fL_wheel e1
  exact ⟨⟨(hs_wheel hN e1 e3 hr.1).1, (hs_wheel hN e1 e3 hr.1).2.1, hr.1.2.2.cg (f1.1 9 (by decide)) (f1.1 10 (by decide)) (fun k h1 h2 => f1.2 k ((by decide : ∀ k, k < 7 → 1 ≤ k → ¬ k ∈ fwM_L_wheel) k h1 h2)) (f3.1 1 (by decide)) (f3.1 2 (by decide)) (fun k h1 => f3.2 k ((by decide : ∀ k, k < 7 → ¬ k ∈ fwM_X12_wheel) k h1))⟩, trivial⟩
theorem rq_fault {N : Nat} (hN : 3000000000 ≤ N) {I0 : Nat → Int32} {M0 : Nat → Nat → Int32} {I1 : Nat → Int32} {L1 : Int64} {M1 : Nat → Nat → Int32} {r1} {r2} (e1 : fX11_fault N I0 M0  = some r1) (e3 : fX12_fault N I1 L1 M1  = some r2) (k0 : KX11 I0 M0) (k1 : KX12 I1 M1) (hr : RQ I0 M0 I1 M1) : RQ I0 M0 r2.2.1 r2.2.2.2 := by
  have f3 := fr_fX12_fault e3
  exact ⟨⟨hr.1.1.cg rfl (f3.1 3 (by decide)) rfl (f3.2 8 (by decide)), hr.1.2.1.cg rfl (f3.2 7 (by decide)), hr.1.2.2.cg rfl rfl (fun _ _ _ => rfl) (f3.1 1 (by decide)) (f3.1 2 (by decide)) (fun k h1 => f3.2 k ((by decide : ∀ k, k < 7 → ¬ k ∈ fwM_X12_fault) k h1))⟩, trivial⟩
theorem rq_count {N : Nat} (hN : 3000000000 ≤ N) {I0 : Nat → Int32} {M0 : Nat → Nat → Int32} {I1 : Nat → Int32} {L1 : Int64} {M1 : Nat → Nat → Int32} {x1 : Int32} {o2 : Nat → Int64} {r1} {r3} (e1 : fL_count N I0 M0 x1 o2 = some r1) (e3 : fX12_count N I1 L1 M1 x1 = some r3) (k0 : KX11 I0 M0) (k1 : KX12 I1 M1) (hr : RQ I0 M0 I1 M1) : RQ r1.2.1 r1.2.2.1 r3.2.1 r3.2.2.2 := by
  have f3 := fr_fX12_count e3
  have f1 := fr_fL_count e1
  exact ⟨⟨hr.1.1.cg (f1.1 0 (by decide)) (f3.1 3 (by decide)) (f1.2 0 (by decide)) (f3.2 8 (by decide)), hr.1.2.1.cg (f1.2 13 (by decide)) (f3.2 7 (by decide)), hr.1.2.2.cg (f1.1 9 (by decide)) (f1.1 10 (by decide)) (fun k h1 h2 => f1.2 k ((by decide : ∀ k, k < 7 → 1 ≤ k → ¬ k ∈ fwM_L_count) k h1 h2)) (f3.1 1 (by decide)) (f3.1 2 (by decide)) (fun k h1 => f3.2 k ((by decide : ∀ k, k < 7 → ¬ k ∈ fwM_X12_count) k h1))⟩, trivial⟩
theorem rq_place {N : Nat} (hN : 3000000000 ≤ N) {I0 : Nat → Int32} {M0 : Nat → Nat → Int32} {I1 : Nat → Int32} {L1 : Int64} {M1 : Nat → Nat → Int32} {x1 : Int32} {x2 : Int32} {x3 : Int32} {o4 : Nat → Int64} {r1} {r3} (e1 : fL_place N I0 M0 x1 x2 x3 o4 = some r1) (e3 : fX12_place N I1 L1 M1 x1 x2 x3 = some r3) (k0 : KX11 I0 M0) (k1 : KX12 I1 M1) (hr : RQ I0 M0 I1 M1) : RQ r1.2.1 r1.2.2.1 r3.2.1 r3.2.2.2 := by
  have f3 := fr_fX12_place e3
  have f1 := fr_fL_place e1
  exact ⟨⟨hr.1.1.cg (f1.1 0 (by decide)) (f3.1 3 (by decide)) (f1.2 0 (by decide)) (f3.2 8 (by decide)), hr.1.2.1.cg (f1.2 13 (by decide)) (f3.2 7 (by decide)), hr.1.2.2.cg (f1.1 9 (by decide)) (f1.1 10 (by decide)) (fun k h1 h2 => f1.2 k ((by decide : ∀ k, k < 7 → 1 ≤ k → ¬ k ∈ fwM_L_place) k h1 h2)) (f3.1 1 (by decide)) (f3.1 2 (by decide)) (fun k h1 => f3.2 k ((by decide : ∀ k, k < 7 → ¬ k ∈ fwM_X12_place) k h1))⟩, trivial⟩
theorem rq_entry {N : Nat} (hN : 3000000000 ≤ N) {I0 : Nat → Int32} {M0 : Nat → Nat → Int32} {I1 : Nat → Int32} {L1 : Int64} {M1 : Nat → Nat → Int32} {x1 : Int32} {x2 : Int32} {x3 : Int32} {o4 : Nat → Int64} {r1} {r3} (e1 : fL_entry N I0 M0 x1 x2 x3 o4 = some r1) (e3 : fX12_entry N I1 L1 M1 x1 x2 x3 = some r3) (k0 : KX11 I0 M0) (k1 : KX12 I1 M1) (hr : RQ I0 M0 I1 M1) : RQ r1.2.1 r1.2.2.1 r3.2.1 r3.2.2.2 := by
  have f3 := fr_fX12_entry e3
  have f1 := fr_fL_entry e1
  exact ⟨⟨hr.1.1.cg (f1.1 0 (by decide)) (f3.1 3 (by decide)) (f1.2 0 (by decide)) (f3.2 8 (by decide)), hr.1.2.1.cg (f1.2 13 (by decide)) (f3.2 7 (by decide)), hr.1.2.2.cg (f1.1 9 (by decide)) (f1.1 10 (by decide)) (fun k h1 h2 => f1.2 k ((by decide : ∀ k, k < 7 → 1 ≤ k → ¬ k ∈ fwM_L_entry) k h1 h2)) (f3.1 1 (by decide)) (f3.1 2 (by decide)) (fun k h1 => f3.2 k ((by decide : ∀ k, k < 7 → ¬ k ∈ fwM_X12_entry) k h1))⟩, trivial⟩
theorem rq_cost {N : Nat} (hN : 3000000000 ≤ N) {I0 : Nat → Int32} {M0 : Nat → Nat → Int32} {I1 : Nat → Int32} {L1 : Int64} {M1 : Nat → Nat → Int32} {x1 : Int32} {x2 : Int32} {x3 : Int32} {x4 : Int32} {o5 : Nat → Int64} {r1} {r3} (e1 : fL_cost N I0 M0 x1 x2 x3 x4 o5 = some r1) (e3 : fX12_cost N I1 L1 M1 x1 x2 x3 x4 = some r3) (k0 : KX11 I0 M0) (k1 : KX12 I1 M1) (hr : RQ I0 M0 I1 M1) : RQ r1.2.1 r1.2.2.1 r3.2.1 r3.2.2.2 := by
  have f3 := fr_fX12_cost e3
  have f1 := fr_fL_cost e1
  exact ⟨⟨hr.1.1.cg (f1.1 0 (by decide)) (f3.1 3 (by decide)) (f1.2 0 (by decide)) (f3.2 8 (by decide)), hr.1.2.1.cg (f1.2 13 (by decide)) (f3.2 7 (by decide)), hr.1.2.2.cg (f1.1 9 (by decide)) (f1.1 10 (by decide)) (fun k h1 h2 => f1.2 k ((by decide : ∀ k, k < 7 → 1 ≤ k → ¬ k ∈ fwM_L_cost) k h1 h2)) (f3.1 1 (by decide)) (f3.1 2 (by decide)) (fun k h1 => f3.2 k ((by decide : ∀ k, k < 7 → ¬ k ∈ fwM_X12_cost) k h1))⟩, trivial⟩
theorem rq_best {N : Nat} (hN : 3000000000 ≤ N) {I0 : Nat → Int32} {M0 : Nat → Nat → Int32} {I1 : Nat → Int32} {L1 : Int64} {M1 : Nat → Nat → Int32} {x1 : Int32} {x2 : Int32} {x3 : Int32} {x4 : Int32} {x5 : Int32} {o6 : Nat → Int64} {r1} {r3} (e1 : fL_best N I0 M0 x1 x2 x3 x4 x5 o6 = some r1) (e3 : fX12_best N I1 L1 M1 x1 x2 x3 x4 x5 = some r3) (k0 : KX11 I0 M0) (k1 : KX12 I1 M1) (hr : RQ I0 M0 I1 M1) : RQ r1.2.1 r1.2.2.1 r3.2.1 r3.2.2.2 := by
  have f3 := fr_fX12_best e3
  have f1 := fr_fL_best e1
  exact ⟨⟨hr.1.1.cg (f1.1 0 (by decide)) (f3.1 3 (by decide)) (f1.2 0 (by decide)) (f3.2 8 (by decide)), hr.1.2.1.cg (f1.2 13 (by decide)) (f3.2 7 (by decide)), hr.1.2.2.cg (f1.1 9 (by decide)) (f1.1 10 (by decide)) (fun k h1 h2 => f1.2 k ((by decide : ∀ k, k < 7 → 1 ≤ k → ¬ k ∈ fwM_L_best) k h1 h2)) (f3.1 1 (by decide)) (f3.1 2 (by decide)) (fun k h1 => f3.2 k ((by decide : ∀ k, k < 7 → ¬ k ∈ fwM_X12_best) k h1))⟩, trivial⟩
theorem rq_day {N : Nat} (hN : 3000000000 ≤ N) {I0 : Nat → Int32} {M0 : Nat → Nat → Int32} {I1 : Nat → Int32} {L1 : Int64} {M1 : Nat → Nat → Int32} {x1 : Int32} {o2 : Nat → Int64} {r1} {r3} (e1 : fL_day N I0 M0 x1 o2 = some r1) (e3 : fX12_day N I1 L1 M1 x1 = some r3) (k0 : KX11 I0 M0) (k1 : KX12 I1 M1) (hr : RQ I0 M0 I1 M1) : RQ r1.2.1 r1.2.2.1 r3.2.1 r3.2.2.2 := by
  have f3 := fr_fX12_day e3
  have f1 := fr_fL_day e1
  exact ⟨⟨hr.1.1.cg (f1.1 0 (by decide)) (f3.1 3 (by decide)) (f1.2 0 (by decide)) (f3.2 8 (by decide)), hr.1.2.1.cg (f1.2 13 (by decide)) (f3.2 7 (by decide)), hr.1.2.2.cg (f1.1 9 (by decide)) (f1.1 10 (by decide)) (fun k h1 h2 => f1.2 k ((by decide : ∀ k, k < 7 → 1 ≤ k → ¬ k ∈ fwM_L_day) k h1 h2)) (f3.1 1 (by decide)) (f3.1 2 (by decide)) (fun k h1 => f3.2 k ((by decide : ∀ k, k < 7 → ¬ k ∈ fwM_X12_day) k h1))⟩, trivial⟩
theorem rq_whose {N : Nat} (hN : 3000000000 ≤ N) {I0 : Nat → Int32} {M0 : Nat → Nat → Int32} {I1 : Nat → Int32} {L1 : Int64} {M1 : Nat → Nat → Int32} {x1 : Int32} {x2 : Int32} {x3 : Int32} {x4 : Int32} {x5 : Int32} {o6 : Nat → Int64} {r1} {r3} (e1 : fL_whose N I0 M0 x1 x2 x3 x4 x5 o6 = some r1) (e3 : fX12_whose N I1 L1 M1 x1 x2 x3 x4 x5 = some r3) (k0 : KX11 I0 M0) (k1 : KX12 I1 M1) (hr : RQ I0 M0 I1 M1) : RQ r1.2.1 r1.2.2.1 r3.2.1 r3.2.2.2 := by
  have f3 := fr_fX12_whose e3
  have f1 := fr_fL_whose e1
  exact ⟨⟨hr.1.1.cg (f1.1 0 (by decide)) (f3.1 3 (by decide)) (f1.2 0 (by decide)) (f3.2 8 (by decide)), hr.1.2.1.cg (f1.2 13 (by decide)) (f3.2 7 (by decide)), hr.1.2.2.cg (f1.1 9 (by decide)) (f1.1 10 (by decide)) (fun k h1 h2 => f1.2 k ((by decide : ∀ k, k < 7 → 1 ≤ k → ¬ k ∈ fwM_L_whose) k h1 h2)) (f3.1 1 (by decide)) (f3.1 2 (by decide)) (fun k h1 => f3.2 k ((by decide : ∀ k, k < 7 → ¬ k ∈ fwM_X12_whose) k h1))⟩, trivial⟩
theorem rq_mixed {N : Nat} (hN : 3000000000 ≤ N) {I0 : Nat → Int32} {M0 : Nat → Nat → Int32} {I1 : Nat → Int32} {L1 : Int64} {M1 : Nat → Nat → Int32} {x1 : Int32} {x2 : Int32} {x3 : Int32} {x4 : Int32} {o5 : Nat → Int64} {r1} {r3} (e1 : fL_mixed N I0 M0 x1 x2 x3 x4 o5 = some r1) (e3 : fX12_mixed N I1 L1 M1 x1 x2 x3 x4 = some r3) (k0 : KX11 I0 M0) (k1 : KX12 I1 M1) (hr : RQ I0 M0 I1 M1) : RQ r1.2.1 r1.2.2.1 r3.2.1 r3.2.2.2 := by
  have f3 := fr_fX12_mixed e3
  have f1 := fr_fL_mixed e1
  exact ⟨⟨hr.1.1.cg (f1.1 0 (by decide)) (f3.1 3 (by decide)) (f1.2 0 (by decide)) (f3.2 8 (by decide)), hr.1.2.1.cg (f1.2 13 (by decide)) (f3.2 7 (by decide)), hr.1.2.2.cg (f1.1 9 (by decide)) (f1.1 10 (by decide)) (fun k h1 h2 => f1.2 k ((by decide : ∀ k, k < 7 → 1 ≤ k → ¬ k ∈ fwM_L_mixed) k h1 h2)) (f3.1 1 (by decide)) (f3.1 2 (by decide)) (fun k h1 => f3.2 k ((by decide : ∀ k, k < 7 → ¬ k ∈ fwM_X12_mixed) k h1))⟩, trivial⟩
theorem rq_climb {N : Nat} (hN : 3000000000 ≤ N) {I0 : Nat → Int32} {M0 : Nat → Nat → Int32} {I1 : Nat → Int32} {L1 : Int64} {M1 : Nat → Nat → Int32} {x1 : Int32} {x2 : Int32} {o3 : Nat → Int64} {r1} {r3} (e1 : fL_climb N I0 M0 x1 x2 o3 = some r1) (e3 : fX12_climb N I1 L1 M1 x1 x2 = some r3) (k0 : KX11 I0 M0) (k1 : KX12 I1 M1) (hr : RQ I0 M0 I1 M1) : RQ r1.2.1 r1.2.2.1 r3.2.1 r3.2.2.2 := by
  have f3 := fr_fX12_climb e3
  have f1 := fr_fL_climb e1
  exact ⟨⟨hr.1.1.cg (f1.1 0 (by decide)) (f3.1 3 (by decide)) (f1.2 0 (by decide)) (f3.2 8 (by decide)), hr.1.2.1.cg (f1.2 13 (by decide)) (f3.2 7 (by decide)), hr.1.2.2.cg (f1.1 9 (by decide)) (f1.1 10 (by decide)) (fun k h1 h2 => f1.2 k ((by decide : ∀ k, k < 7 → 1 ≤ k → ¬ k ∈ fwM_L_climb) k h1 h2)) (f3.1 1 (by decide)) (f3.1 2 (by decide)) (fun k h1 => f3.2 k ((by decide : ∀ k, k < 7 → ¬ k ∈ fwM_X12_climb) k h1))⟩, trivial⟩
theorem rq_rise {N : Nat} (hN : 3000000000 ≤ N) {I0 : Nat → Int32} {M0 : Nat → Nat → Int32} {I1 : Nat → Int32} {L1 : Int64} {M1 : Nat → Nat → Int32} {x1 : Int32} {x2 : Int32} {x3 : Int32} {o4 : Nat → Int64} {r1} {r3} (e1 : fL_rise N I0 M0 x1 x2 x3 o4 = some r1) (e3 : fX12_rise N I1 L1 M1 x1 x2 x3 = some r3) (k0 : KX11 I0 M0) (k1 : KX12 I1 M1) (hr : RQ I0 M0 I1 M1) : RQ r1.2.1 r1.2.2.1 r3.2.1 r3.2.2.2 := by
  have f3 := fr_fX12_rise e3
  have f1 := fr_fL_rise e1
  exact ⟨⟨hr.1.1.cg (f1.1 0 (by decide)) (f3.1 3 (by decide)) (f1.2 0 (by decide)) (f3.2 8 (by decide)), hr.1.2.1.cg (f1.2 13 (by decide)) (f3.2 7 (by decide)), hr.1.2.2.cg (f1.1 9 (by decide)) (f1.1 10 (by decide)) (fun k h1 h2 => f1.2 k ((by decide : ∀ k, k < 7 → 1 ≤ k → ¬ k ∈ fwM_L_rise) k h1 h2)) (f3.1 1 (by decide)) (f3.1 2 (by decide)) (fun k h1 => f3.2 k ((by decide : ∀ k, k < 7 → ¬ k ∈ fwM_X12_rise) k h1))⟩, trivial⟩
theorem rq_middle {N : Nat} (hN : 3000000000 ≤ N) {I0 : Nat → Int32} {M0 : Nat → Nat → Int32} {I1 : Nat → Int32} {L1 : Int64} {M1 : Nat → Nat → Int32} {x1 : Int32} {x2 : Int32} {o3 : Nat → Int64} {r1} {r3} (e1 : fL_middle N I0 M0 x1 x2 o3 = some r1) (e3 : fX12_middle N I1 L1 M1 x1 x2 = some r3) (k0 : KX11 I0 M0) (k1 : KX12 I1 M1) (hr : RQ I0 M0 I1 M1) : RQ r1.2.1 r1.2.2.1 r3.2.1 r3.2.2.2 := by
  have f3 := fr_fX12_middle e3
  have f1 := fr_fL_middle e1
  exact ⟨⟨hr.1.1.cg (f1.1 0 (by decide)) (f3.1 3 (by decide)) (f1.2 0 (by decide)) (f3.2 8 (by decide)), hr.1.2.1.cg (f1.2 13 (by decide)) (f3.2 7 (by decide)), hr.1.2.2.cg (f1.1 9 (by decide)) (f1.1 10 (by decide)) (fun k h1 h2 => f1.2 k ((by decide : ∀ k, k < 7 → 1 ≤ k → ¬ k ∈ fwM_L_middle) k h1 h2)) (f3.1 1 (by decide)) (f3.1 2 (by decide)) (fun k h1 => f3.2 k ((by decide : ∀ k, k < 7 → ¬ k ∈ fwM_X12_middle) k h1))⟩, trivial⟩
theorem rq_hour {N : Nat} (hN : 3000000000 ≤ N) {I0 : Nat → Int32} {M0 : Nat → Nat → Int32} {I1 : Nat → Int32} {L1 : Int64} {M1 : Nat → Nat → Int32} {x1 : Int32} {x2 : Int32} {x3 : Int32} {o4 : Nat → Int64} {r1} {r3} (e1 : fL_hour N I0 M0 x1 x2 x3 o4 = some r1) (e3 : fX12_hour N I1 L1 M1 x1 x2 x3 = some r3) (k0 : KX11 I0 M0) (k1 : KX12 I1 M1) (hr : RQ I0 M0 I1 M1) : RQ r1.2.1 r1.2.2.1 r3.2.1 r3.2.2.2 := by
  have f3 := fr_fX12_hour e3
  have f1 := fr_fL_hour e1
  exact ⟨⟨hr.1.1.cg (f1.1 0 (by decide)) (f3.1 3 (by decide)) (f1.2 0 (by decide)) (f3.2 8 (by decide)), hr.1.2.1.cg (f1.2 13 (by decide)) (f3.2 7 (by decide)), hr.1.2.2.cg (f1.1 9 (by decide)) (f1.1 10 (by decide)) (fun k h1 h2 => f1.2 k ((by decide : ∀ k, k < 7 → 1 ≤ k → ¬ k ∈ fwM_L_hour) k h1 h2)) (f3.1 1 (by decide)) (f3.1 2 (by decide)) (fun k h1 => f3.2 k ((by decide : ∀ k, k < 7 → ¬ k ∈ fwM_X12_hour) k h1))⟩, trivial⟩
theorem rq_houseOf {N : Nat} (hN : 3000000000 ≤ N) {I0 : Nat → Int32} {M0 : Nat → Nat → Int32} {I1 : Nat → Int32} {L1 : Int64} {M1 : Nat → Nat → Int32} {x1 : Int32} {x2 : Int32} {x3 : Int32} {x4 : Int32} {o5 : Nat → Int64} {r1} {r3} (e1 : fL_houseOf N I0 M0 x1 x2 x3 x4 o5 = some r1) (e3 : fX12_houseOf N I1 L1 M1 x1 x2 x3 x4 = some r3) (k0 : KX11 I0 M0) (k1 : KX12 I1 M1) (hr : RQ I0 M0 I1 M1) : RQ r1.2.1 r1.2.2.1 r3.2.1 r3.2.2.2 := by
  have f3 := fr_fX12_houseOf e3
  have f1 := fr_fL_houseOf e1
  exact ⟨⟨hr.1.1.cg (f1.1 0 (by decide)) (f3.1 3 (by decide)) (f1.2 0 (by decide)) (f3.2 8 (by decide)), hr.1.2.1.cg (f1.2 13 (by decide)) (f3.2 7 (by decide)), hr.1.2.2.cg (f1.1 9 (by decide)) (f1.1 10 (by decide)) (fun k h1 h2 => f1.2 k ((by decide : ∀ k, k < 7 → 1 ≤ k → ¬ k ∈ fwM_L_houseOf) k h1 h2)) (f3.1 1 (by decide)) (f3.1 2 (by decide)) (fun k h1 => f3.2 k ((by decide : ∀ k, k < 7 → ¬ k ∈ fwM_X12_houseOf) k h1))⟩, trivial⟩
theorem rq_agree {N : Nat} (hN : 3000000000 ≤ N) {I0 : Nat → Int32} {M0 : Nat → Nat → Int32} {I1 : Nat → Int32} {L1 : Int64} {M1 : Nat → Nat → Int32} {x1 : Int32} {x2 : Int32} {x3 : Int32} {x4 : Int32} {o5 : Nat → Int64} {r1} {r3} (e1 : fL_agree N I0 M0 x1 x2 x3 x4 o5 = some r1) (e3 : fX12_agree N I1 L1 M1 x1 x2 x3 x4 = some r3) (k0 : KX11 I0 M0) (k1 : KX12 I1 M1) (hr : RQ I0 M0 I1 M1) : RQ r1.2.1 r1.2.2.1 r3.2.1 r3.2.2.2 := by
  have f3 := fr_fX12_agree e3
  have f1 := fr_fL_agree e1
  exact ⟨⟨hr.1.1.cg (f1.1 0 (by decide)) (f3.1 3 (by decide)) (f1.2 0 (by decide)) (f3.2 8 (by decide)), hr.1.2.1.cg (f1.2 13 (by decide)) (f3.2 7 (by decide)), hr.1.2.2.cg (f1.1 9 (by decide)) (f1.1 10 (by decide)) (fun k h1 h2 => f1.2 k ((by decide : ∀ k, k < 7 → 1 ≤ k → ¬ k ∈ fwM_L_agree) k h1 h2)) (f3.1 1 (by decide)) (f3.1 2 (by decide)) (fun k h1 => f3.2 k ((by decide : ∀ k, k < 7 → ¬ k ∈ fwM_X12_agree) k h1))⟩, trivial⟩
theorem rq_lot {N : Nat} (hN : 3000000000 ≤ N) {I0 : Nat → Int32} {M0 : Nat → Nat → Int32} {I1 : Nat → Int32} {L1 : Int64} {M1 : Nat → Nat → Int32} {x1 : Int32} {x2 : Int32} {x3 : Int32} {o4 : Nat → Int64} {r1} {r3} (e1 : fL_lot N I0 M0 x1 x2 x3 o4 = some r1) (e3 : fX12_lot N I1 L1 M1 x1 x2 x3 = some r3) (k0 : KX11 I0 M0) (k1 : KX12 I1 M1) (hr : RQ I0 M0 I1 M1) : RQ r1.2.1 r1.2.2.1 r3.2.1 r3.2.2.2 := by
  have f3 := fr_fX12_lot e3
  have f1 := fr_fL_lot e1
  exact ⟨⟨hr.1.1.cg (f1.1 0 (by decide)) (f3.1 3 (by decide)) (f1.2 0 (by decide)) (f3.2 8 (by decide)), hr.1.2.1.cg (f1.2 13 (by decide)) (f3.2 7 (by decide)), hr.1.2.2.cg (f1.1 9 (by decide)) (f1.1 10 (by decide)) (fun k h1 h2 => f1.2 k ((by decide : ∀ k, k < 7 → 1 ≤ k → ¬ k ∈ fwM_L_lot) k h1 h2)) (f3.1 1 (by decide)) (f3.1 2 (by decide)) (fun k h1 => f3.2 k ((by decide : ∀ k, k < 7 → ¬ k ∈ fwM_X12_lot) k h1))⟩, trivial⟩
theorem rq_price {N : Nat} (hN : 3000000000 ≤ N) {I0 : Nat → Int32} {M0 : Nat → Nat → Int32} {I1 : Nat → Int32} {L1 : Int64} {M1 : Nat → Nat → Int32} {x1 : Int32} {x2 : Int32} {o3 : Nat → Int64} {r1} {r3} (e1 : fL_price N I0 M0 x1 x2 o3 = some r1) (e3 : fX12_price N I1 L1 M1 x1 x2 = some r3) (k0 : KX11 I0 M0) (k1 : KX12 I1 M1) (hr : RQ I0 M0 I1 M1) : RQ r1.2.1 r1.2.2.1 r3.2.1 r3.2.2.2 := by
  have f3 := fr_fX12_price e3
  have f1 := fr_fL_price e1
  exact ⟨⟨hr.1.1.cg (f1.1 0 (by decide)) (f3.1 3 (by decide)) (f1.2 0 (by decide)) (f3.2 8 (by decide)), hr.1.2.1.cg (f1.2 13 (by decide)) (f3.2 7 (by decide)), hr.1.2.2.cg (f1.1 9 (by decide)) (f1.1 10 (by decide)) (fun k h1 h2 => f1.2 k ((by decide : ∀ k, k < 7 → 1 ≤ k → ¬ k ∈ fwM_L_price) k h1 h2)) (f3.1 1 (by decide)) (f3.1 2 (by decide)) (fun k h1 => f3.2 k ((by decide : ∀ k, k < 7 → ¬ k ∈ fwM_X12_price) k h1))⟩, trivial⟩
theorem rq_seek {N : Nat} (hN : 3000000000 ≤ N) {I0 : Nat → Int32} {M0 : Nat → Nat → Int32} {I1 : Nat → Int32} {L1 : Int64} {M1 : Nat → Nat → Int32} {x1 : Int32} {x2 : Int32} {x3 : Int32} {x4 : Int32} {r1} {r3} (e1 : fL_seek N I0 M0 x1 x2 x3 x4 = some r1) (e3 : fX12_seek N I1 L1 M1 x1 x2 x3 x4 = some r3) (k0 : KX11 I0 M0) (k1 : KX12 I1 M1) (hr : RQ I0 M0 I1 M1) : RQ r1.2.1 r1.2.2 r3.1 r3.2.2 := by
  have f3 := fr_fX12_seek e3
  have f1 := fr_fL_seek e1
  exact ⟨⟨hr.1.1.cg (f1.1 0 (by decide)) (f3.1 3 (by decide)) (f1.2 0 (by decide)) (f3.2 8 (by decide)), hr.1.2.1.cg (f1.2 13 (by decide)) (f3.2 7 (by decide)), hr.1.2.2.cg (f1.1 9 (by decide)) (f1.1 10 (by decide)) (fun k h1 h2 => f1.2 k ((by decide : ∀ k, k < 7 → 1 ≤ k → ¬ k ∈ fwM_L_seek) k h1 h2)) (f3.1 1 (by decide)) (f3.1 2 (by decide)) (fun k h1 => f3.2 k ((by decide : ∀ k, k < 7 → ¬ k ∈ fwM_X12_seek) k h1))⟩, trivial⟩
theorem rq_on {N : Nat} (hN : 3000000000 ≤ N) {I0 : Nat → Int32} {M0 : Nat → Nat → Int32} {I1 : Nat → Int32} {L1 : Int64} {M1 : Nat → Nat → Int32} {x1 : Int32} {o2 : Nat → Int64} {r1} {r3} (e1 : fL_on N I0 M0 x1 o2 = some r1) (e3 : fX12_on N I1 L1 M1 x1 = some r3) (k0 : KX11 I0 M0) (k1 : KX12 I1 M1) (hr : RQ I0 M0 I1 M1) : RQ r1.2.1 r1.2.2.1 r3.2.1 r3.2.2.2 := by
  have f3 := fr_fX12_on e3
  have f1 := fr_fL_on e1
  exact ⟨⟨hr.1.1.cg (f1.1 0 (by decide)) (f3.1 3 (by decide)) (f1.2 0 (by decide)) (f3.2 8 (by decide)), hr.1.2.1.cg (f1.2 13 (by decide)) (f3.2 7 (by decide)), hr.1.2.2.cg (f1.1 9 (by decide)) (f1.1 10 (by decide)) (fun k h1 h2 => f1.2 k ((by decide : ∀ k, k < 7 → 1 ≤ k → ¬ k ∈ fwM_L_on) k h1 h2)) (f3.1 1 (by decide)) (f3.1 2 (by decide)) (fun k h1 => f3.2 k ((by decide : ∀ k, k < 7 → ¬ k ∈ fwM_X12_on) k h1))⟩, trivial⟩
theorem rq_held {N : Nat} (hN : 3000000000 ≤ N) {I0 : Nat → Int32} {M0 : Nat → Nat → Int32} {I1 : Nat → Int32} {L1 : Int64} {M1 : Nat → Nat → Int32} {x1 : Int32} {o2 : Nat → Int64} {r1} {r3} (e1 : fL_held N I0 M0 x1 o2 = some r1) (e3 : fX12_held N I1 L1 M1 x1 = some r3) (k0 : KX11 I0 M0) (k1 : KX12 I1 M1) (hr : RQ I0 M0 I1 M1) : RQ r1.2.1 r1.2.2.1 r3.2.1 r3.2.2.2 := by
  have f3 := fr_fX12_held e3
  have f1 := fr_fL_held e1
  exact ⟨⟨hr.1.1.cg (f1.1 0 (by decide)) (f3.1 3 (by decide)) (f1.2 0 (by decide)) (f3.2 8 (by decide)), hr.1.2.1.cg (f1.2 13 (by decide)) (f3.2 7 (by decide)), hr.1.2.2.cg (f1.1 9 (by decide)) (f1.1 10 (by decide)) (fun k h1 h2 => f1.2 k ((by decide : ∀ k, k < 7 → 1 ≤ k → ¬ k ∈ fwM_L_held) k h1 h2)) (f3.1 1 (by decide)) (f3.1 2 (by decide)) (fun k h1 => f3.2 k ((by decide : ∀ k, k < 7 → ¬ k ∈ fwM_X12_held) k h1))⟩, trivial⟩
theorem rq_image {N : Nat} (hN : 3000000000 ≤ N) {I0 : Nat → Int32} {M0 : Nat → Nat → Int32} {I1 : Nat → Int32} {L1 : Int64} {M1 : Nat → Nat → Int32} {r1} {r2} (e1 : fX11_image N I0 M0  = some r1) (e3 : fX12_image N I1 L1 M1  = some r2) (k0 : KX11 I0 M0) (k1 : KX12 I1 M1) (hr : RQ I0 M0 I1 M1) : RQ r1.2.1 r1.2.2 r2.2.1 r2.2.2.2 := by
  have f3 := fr_fX12_image e3
  have f1 := fr_fX11_image e1
  exact ⟨⟨hr.1.1.cg (f1.1 0 (by decide)) (f3.1 3 (by decide)) (f1.2 0 (by decide)) (f3.2 8 (by decide)), hr.1.2.1.cg (f1.2 13 (by decide)) (f3.2 7 (by decide)), hr.1.2.2.cg (f1.1 9 (by decide)) (f1.1 10 (by decide)) (fun k h1 h2 => f1.2 k ((by decide : ∀ k, k < 7 → 1 ≤ k → ¬ k ∈ fwM_X11_image) k h1 h2)) (f3.1 1 (by decide)) (f3.1 2 (by decide)) (fun k h1 => f3.2 k ((by decide : ∀ k, k < 7 → ¬ k ∈ fwM_X12_image) k h1))⟩, trivial⟩
theorem rq_restore {N : Nat} (hN : 3000000000 ≤ N) {I0 : Nat → Int32} {M0 : Nat → Nat → Int32} {I1 : Nat → Int32} {L1 : Int64} {M1 : Nat → Nat → Int32} {r1} {r2} (e1 : fX11_restore N I0 M0  = some r1) (e3 : fX12_restore N I1 L1 M1  = some r2) (k0 : KX11 I0 M0) (k1 : KX12 I1 M1) (hr : RQ I0 M0 I1 M1) : RQ r1.2.1 r1.2.2 r2.2.1 r2.2.2.2 := by
  have f3 := fr_fX12_restore e3
  have f1 := fr_fX11_restore e1
  exact ⟨⟨hr.1.1.cg (f1.1 0 (by decide)) (f3.1 3 (by decide)) (f1.2 0 (by decide)) (f3.2 8 (by decide)), hr.1.2.1.cg (f1.2 13 (by decide)) (f3.2 7 (by decide)), hr.1.2.2.cg (f1.1 9 (by decide)) (f1.1 10 (by decide)) (fun k h1 h2 => f1.2 k ((by decide : ∀ k, k < 7 → 1 ≤ k → ¬ k ∈ fwM_X11_restore) k h1 h2)) (f3.1 1 (by decide)) (f3.1 2 (by decide)) (fun k h1 => f3.2 k ((by decide : ∀ k, k < 7 → ¬ k ∈ fwM_X12_restore) k h1))⟩, trivial⟩
theorem rq_misread {N : Nat} (hN : 3000000000 ≤ N) {I0 : Nat → Int32} {M0 : Nat → Nat → Int32} {I1 : Nat → Int32} {L1 : Int64} {M1 : Nat → Nat → Int32} {x1 : Int32} {x2 : Int32} {x3 : Int32} {x4 : Int32} {x5 : Int32} {o6 : Nat → Int64} {r1} {r3} (e1 : fL_misread N I0 M0 x1 x2 x3 x4 x5 o6 = some r1) (e3 : fX12_misread N I1 L1 M1 x1 x2 x3 x4 x5 = some r3) (k0 : KX11 I0 M0) (k1 : KX12 I1 M1) (hr : RQ I0 M0 I1 M1) : RQ r1.2.1 r1.2.2.1 r3.2.1 r3.2.2.2 := by
  have f3 := fr_fX12_misread e3
  have f1 := fr_fL_misread e1
  exact ⟨⟨hr.1.1.cg (f1.1 0 (by decide)) (f3.1 3 (by decide)) (f1.2 0 (by decide)) (f3.2 8 (by decide)), hr.1.2.1.cg (f1.2 13 (by decide)) (f3.2 7 (by decide)), hr.1.2.2.cg (f1.1 9 (by decide)) (f1.1 10 (by decide)) (fun k h1 h2 => f1.2 k ((by decide : ∀ k, k < 7 → 1 ≤ k → ¬ k ∈ fwM_L_misread) k h1 h2)) (f3.1 1 (by decide)) (f3.1 2 (by decide)) (fun k h1 => f3.2 k ((by decide : ∀ k, k < 7 → ¬ k ∈ fwM_X12_misread) k h1))⟩, trivial⟩
theorem rq_errors {N : Nat} (hN : 3000000000 ≤ N) {I0 : Nat → Int32} {M0 : Nat → Nat → Int32} {I1 : Nat → Int32} {L1 : Int64} {M1 : Nat → Nat → Int32} {x1 : Int32} {x2 : Int32} {x3 : Int32} {x4 : Int32} {o5 : Nat → Int64} {r1} {r3} (e1 : fL_errors N I0 M0 x1 x2 x3 x4 o5 = some r1) (e3 : fX12_errors N I1 L1 M1 x1 x2 x3 x4 = some r3) (k0 : KX11 I0 M0) (k1 : KX12 I1 M1) (hr : RQ I0 M0 I1 M1) : RQ r1.2.1 r1.2.2.1 r3.2.1 r3.2.2.2 := by
  have f3 := fr_fX12_errors e3
  have f1 := fr_fL_errors e1
  exact ⟨⟨hr.1.1.cg (f1.1 0 (by decide)) (f3.1 3 (by decide)) (f1.2 0 (by decide)) (f3.2 8 (by decide)), hr.1.2.1.cg (f1.2 13 (by decide)) (f3.2 7 (by decide)), hr.1.2.2.cg (f1.1 9 (by decide)) (f1.1 10 (by decide)) (fun k h1 h2 => f1.2 k ((by decide : ∀ k, k < 7 → 1 ≤ k → ¬ k ∈ fwM_L_errors) k h1 h2)) (f3.1 1 (by decide)) (f3.1 2 (by decide)) (fun k h1 => f3.2 k ((by decide : ∀ k, k < 7 → ¬ k ∈ fwM_X12_errors) k h1))⟩, trivial⟩
theorem rq_possible {N : Nat} (hN : 3000000000 ≤ N) {I0 : Nat → Int32} {M0 : Nat → Nat → Int32} {I1 : Nat → Int32} {L1 : Int64} {M1 : Nat → Nat → Int32} {x1 : Int32} {x2 : Int32} {x3 : Int32} {o4 : Nat → Int64} {r1} {r3} (e1 : fL_possible N I0 M0 x1 x2 x3 o4 = some r1) (e3 : fX12_possible N I1 L1 M1 x1 x2 x3 = some r3) (k0 : KX11 I0 M0) (k1 : KX12 I1 M1) (hr : RQ I0 M0 I1 M1) : RQ r1.2.1 r1.2.2.1 r3.2.1 r3.2.2.2 := by
  have f3 := fr_fX12_possible e3
  have f1 := fr_fL_possible e1
  exact ⟨⟨hr.1.1.cg (f1.1 0 (by decide)) (f3.1 3 (by decide)) (f1.2 0 (by decide)) (f3.2 8 (by decide)), hr.1.2.1.cg (f1.2 13 (by decide)) (f3.2 7 (by decide)), hr.1.2.2.cg (f1.1 9 (by decide)) (f1.1 10 (by decide)) (fun k h1 h2 => f1.2 k ((by decide : ∀ k, k < 7 → 1 ≤ k → ¬ k ∈ fwM_L_possible) k h1 h2)) (f3.1 1 (by decide)) (f3.1 2 (by decide)) (fun k h1 => f3.2 k ((by decide : ∀ k, k < 7 → ¬ k ∈ fwM_X12_possible) k h1))⟩, trivial⟩
theorem rq_slips {N : Nat} (hN : 3000000000 ≤ N) {I0 : Nat → Int32} {M0 : Nat → Nat → Int32} {I1 : Nat → Int32} {L1 : Int64} {M1 : Nat → Nat → Int32} {x1 : Int32} {x2 : Int32} {o3 : Nat → Int64} {r1} {r3} (e1 : fL_slips N I0 M0 x1 x2 o3 = some r1) (e3 : fX12_slips N I1 L1 M1 x1 x2 = some r3) (k0 : KX11 I0 M0) (k1 : KX12 I1 M1) (hr : RQ I0 M0 I1 M1) : RQ r1.2.1 r1.2.2.1 r3.2.1 r3.2.2.2 := by
  have f3 := fr_fX12_slips e3
  have f1 := fr_fL_slips e1
  exact ⟨⟨hr.1.1.cg (f1.1 0 (by decide)) (f3.1 3 (by decide)) (f1.2 0 (by decide)) (f3.2 8 (by decide)), hr.1.2.1.cg (f1.2 13 (by decide)) (f3.2 7 (by decide)), hr.1.2.2.cg (f1.1 9 (by decide)) (f1.1 10 (by decide)) (fun k h1 h2 => f1.2 k ((by decide : ∀ k, k < 7 → 1 ≤ k → ¬ k ∈ fwM_L_slips) k h1 h2)) (f3.1 1 (by decide)) (f3.1 2 (by decide)) (fun k h1 => f3.2 k ((by decide : ∀ k, k < 7 → ¬ k ∈ fwM_X12_slips) k h1))⟩, trivial⟩
theorem rq_handed {N : Nat} (hN : 3000000000 ≤ N) {I0 : Nat → Int32} {M0 : Nat → Nat → Int32} {I1 : Nat → Int32} {L1 : Int64} {M1 : Nat → Nat → Int32} {x1 : Int32} {x2 : Int32} {x3 : Int32} {o4 : Nat → Int64} {r1} {r3} (e1 : fL_handed N I0 M0 x1 x2 x3 o4 = some r1) (e3 : fX12_handed N I1 L1 M1 x1 x2 x3 = some r3) (k0 : KX11 I0 M0) (k1 : KX12 I1 M1) (hr : RQ I0 M0 I1 M1) : RQ r1.2.1 r1.2.2.1 r3.2.1 r3.2.2.2 := by
  have f3 := fr_fX12_handed e3
  have f1 := fr_fL_handed e1
  exact ⟨⟨hr.1.1.cg (f1.1 0 (by decide)) (f3.1 3 (by decide)) (f1.2 0 (by decide)) (f3.2 8 (by decide)), hr.1.2.1.cg (f1.2 13 (by decide)) (f3.2 7 (by decide)), hr.1.2.2.cg (f1.1 9 (by decide)) (f1.1 10 (by decide)) (fun k h1 h2 => f1.2 k ((by decide : ∀ k, k < 7 → 1 ≤ k → ¬ k ∈ fwM_L_handed) k h1 h2)) (f3.1 1 (by decide)) (f3.1 2 (by decide)) (fun k h1 => f3.2 k ((by decide : ∀ k, k < 7 → ¬ k ∈ fwM_X12_handed) k h1))⟩, trivial⟩
theorem rq_leaf {N : Nat} (hN : 3000000000 ≤ N) {I0 : Nat → Int32} {M0 : Nat → Nat → Int32} {I1 : Nat → Int32} {L1 : Int64} {M1 : Nat → Nat → Int32} {x1 : Int32} {x2 : Int32} {o3 : Nat → Int64} {r1} {r3} (e1 : fL_leaf N I0 M0 x1 x2 o3 = some r1) (e3 : fX12_leaf N I1 L1 M1 x1 x2 = some r3) (k0 : KX11 I0 M0) (k1 : KX12 I1 M1) (hr : RQ I0 M0 I1 M1) : RQ r1.2.1 r1.2.2.1 r3.2.1 r3.2.2.2 := by
  have f3 := fr_fX12_leaf e3
  have f1 := fr_fL_leaf e1
  exact ⟨⟨hr.1.1.cg (f1.1 0 (by decide)) (f3.1 3 (by decide)) (f1.2 0 (by decide)) (f3.2 8 (by decide)), hr.1.2.1.cg (f1.2 13 (by decide)) (f3.2 7 (by decide)), hr.1.2.2.cg (f1.1 9 (by decide)) (f1.1 10 (by decide)) (fun k h1 h2 => f1.2 k ((by decide : ∀ k, k < 7 → 1 ≤ k → ¬ k ∈ fwM_L_leaf) k h1 h2)) (f3.1 1 (by decide)) (f3.1 2 (by decide)) (fun k h1 => f3.2 k ((by decide : ∀ k, k < 7 → ¬ k ∈ fwM_X12_leaf) k h1))⟩, trivial⟩
theorem rq_order {N : Nat} (hN : 3000000000 ≤ N) {I0 : Nat → Int32} {M0 : Nat → Nat → Int32} {I1 : Nat → Int32} {L1 : Int64} {M1 : Nat → Nat → Int32} {x1 : Int32} {x2 : Int32} {x3 : Int32} {o4 : Nat → Int64} {r1} {r3} (e1 : fL_order N I0 M0 x1 x2 x3 o4 = some r1) (e3 : fX12_order N I1 L1 M1 x1 x2 x3 = some r3) (k0 : KX11 I0 M0) (k1 : KX12 I1 M1) (hr : RQ I0 M0 I1 M1) : RQ r1.2.1 r1.2.2.1 r3.2.1 r3.2.2.2 := by
  have f3 := fr_fX12_order e3
  have f1 := fr_fL_order e1
  exact ⟨⟨hr.1.1.cg (f1.1 0 (by decide)) (f3.1 3 (by decide)) (f1.2 0 (by decide)) (f3.2 8 (by decide)), hr.1.2.1.cg (f1.2 13 (by decide)) (f3.2 7 (by decide)), hr.1.2.2.cg (f1.1 9 (by decide)) (f1.1 10 (by decide)) (fun k h1 h2 => f1.2 k ((by decide : ∀ k, k < 7 → 1 ≤ k → ¬ k ∈ fwM_L_order) k h1 h2)) (f3.1 1 (by decide)) (f3.1 2 (by decide)) (fun k h1 => f3.2 k ((by decide : ∀ k, k < 7 → ¬ k ∈ fwM_X12_order) k h1))⟩, trivial⟩
theorem rq_same {N : Nat} (hN : 3000000000 ≤ N) {I0 : Nat → Int32} {M0 : Nat → Nat → Int32} {I1 : Nat → Int32} {L1 : Int64} {M1 : Nat → Nat → Int32} {x1 : Int32} {x2 : Int32} {x3 : Int32} {o4 : Nat → Int64} {r1} {r3} (e1 : fL_same N I0 M0 x1 x2 x3 o4 = some r1) (e3 : fX12_same N I1 L1 M1 x1 x2 x3 = some r3) (k0 : KX11 I0 M0) (k1 : KX12 I1 M1) (hr : RQ I0 M0 I1 M1) : RQ r1.2.1 r1.2.2.1 r3.2.1 r3.2.2.2 := by
  have f3 := fr_fX12_same e3
  have f1 := fr_fL_same e1
  exact ⟨⟨hr.1.1.cg (f1.1 0 (by decide)) (f3.1 3 (by decide)) (f1.2 0 (by decide)) (f3.2 8 (by decide)), hr.1.2.1.cg (f1.2 13 (by decide)) (f3.2 7 (by decide)), hr.1.2.2.cg (f1.1 9 (by decide)) (f1.1 10 (by decide)) (fun k h1 h2 => f1.2 k ((by decide : ∀ k, k < 7 → 1 ≤ k → ¬ k ∈ fwM_L_same) k h1 h2)) (f3.1 1 (by decide)) (f3.1 2 (by decide)) (fun k h1 => f3.2 k ((by decide : ∀ k, k < 7 → ¬ k ∈ fwM_X12_same) k h1))⟩, trivial⟩
theorem rq_births {N : Nat} (hN : 3000000000 ≤ N) {I0 : Nat → Int32} {M0 : Nat → Nat → Int32} {I1 : Nat → Int32} {L1 : Int64} {M1 : Nat → Nat → Int32} {x1 : Int32} {x2 : Int32} {o3 : Nat → Int64} {r1} {r3} (e1 : fL_births N I0 M0 x1 x2 o3 = some r1) (e3 : fX12_births N I1 L1 M1 x1 x2 = some r3) (k0 : KX11 I0 M0) (k1 : KX12 I1 M1) (hr : RQ I0 M0 I1 M1) : RQ r1.2.1 r1.2.2.1 r3.2.1 r3.2.2.2 := by
  have f3 := fr_fX12_births e3
  have f1 := fr_fL_births e1
  exact ⟨⟨hr.1.1.cg (f1.1 0 (by decide)) (f3.1 3 (by decide)) (f1.2 0 (by decide)) (f3.2 8 (by decide)), hr.1.2.1.cg (f1.2 13 (by decide)) (f3.2 7 (by decide)), hr.1.2.2.cg (f1.1 9 (by decide)) (f1.1 10 (by decide)) (fun k h1 h2 => f1.2 k ((by decide : ∀ k, k < 7 → 1 ≤ k → ¬ k ∈ fwM_L_births) k h1 h2)) (f3.1 1 (by decide)) (f3.1 2 (by decide)) (fun k h1 => f3.2 k ((by decide : ∀ k, k < 7 → ¬ k ∈ fwM_X12_births) k h1))⟩, trivial⟩
theorem rq_tree {N : Nat} (hN : 3000000000 ≤ N) {I0 : Nat → Int32} {M0 : Nat → Nat → Int32} {I1 : Nat → Int32} {L1 : Int64} {M1 : Nat → Nat → Int32} {r1} {r2} (e1 : fX11_tree N I0 M0  = some r1) (e3 : fX12_tree N I1 L1 M1  = some r2) (k0 : KX11 I0 M0) (k1 : KX12 I1 M1) (hr : RQ I0 M0 I1 M1) : RQ r1.2.1 r1.2.2 r2.2.1 r2.2.2.2 := by
  have f3 := fr_fX12_tree e3
  have f1 := fr_fX11_tree e1
  exact ⟨⟨hr.1.1.cg (f1.1 0 (by decide)) (f3.1 3 (by decide)) (f1.2 0 (by decide)) (f3.2 8 (by decide)), hr.1.2.1.cg (f1.2 13 (by decide)) (f3.2 7 (by decide)), hr.1.2.2.cg (f1.1 9 (by decide)) (f1.1 10 (by decide)) (fun k h1 h2 => f1.2 k ((by decide : ∀ k, k < 7 → 1 ≤ k → ¬ k ∈ fwM_X11_tree) k h1 h2)) (f3.1 1 (by decide)) (f3.1 2 (by decide)) (fun k h1 => f3.2 k ((by decide : ∀ k, k < 7 → ¬ k ∈ fwM_X12_tree) k h1))⟩, trivial⟩
theorem rq_whence {N : Nat} (hN : 3000000000 ≤ N) {I0 : Nat → Int32} {M0 : Nat → Nat → Int32} {I1 : Nat → Int32} {L1 : Int64} {M1 : Nat → Nat → Int32} {x1 : Int32} {o2 : Nat → Int64} {r1} {r3} (e1 : fL_whence N I0 M0 x1 o2 = some r1) (e3 : fX12_whence N I1 L1 M1 x1 = some r3) (k0 : KX11 I0 M0) (k1 : KX12 I1 M1) (hr : RQ I0 M0 I1 M1) : RQ r1.2.1 r1.2.2.1 r3.2.1 r3.2.2.2 := by
  have f3 := fr_fX12_whence e3
  have f1 := fr_fL_whence e1
  exact ⟨⟨hr.1.1.cg (f1.1 0 (by decide)) (f3.1 3 (by decide)) (f1.2 0 (by decide)) (f3.2 8 (by decide)), hr.1.2.1.cg (f1.2 13 (by decide)) (f3.2 7 (by decide)), hr.1.2.2.cg (f1.1 9 (by decide)) (f1.1 10 (by decide)) (fun k h1 h2 => f1.2 k ((by decide : ∀ k, k < 7 → 1 ≤ k → ¬ k ∈ fwM_L_whence) k h1 h2)) (f3.1 1 (by decide)) (f3.1 2 (by decide)) (fun k h1 => f3.2 k ((by decide : ∀ k, k < 7 → ¬ k ∈ fwM_X12_whence) k h1))⟩, trivial⟩
theorem rq_life {N : Nat} (hN : 3000000000 ≤ N) {I0 : Nat → Int32} {M0 : Nat → Nat → Int32} {I1 : Nat → Int32} {L1 : Int64} {M1 : Nat → Nat → Int32} {x1 : Int32} {x2 : Int32} {x3 : Int32} {o4 : Nat → Int64} {r1} {r3} (e1 : fL_life N I0 M0 x1 x2 x3 o4 = some r1) (e3 : fX12_life N I1 L1 M1 x1 x2 x3 = some r3) (k0 : KX11 I0 M0) (k1 : KX12 I1 M1) (hr : RQ I0 M0 I1 M1) : RQ r1.2.1 r1.2.2.1 r3.2.1 r3.2.2.2 := by
  have f3 := fr_fX12_life e3
  have f1 := fr_fL_life e1
  exact ⟨⟨hr.1.1.cg (f1.1 0 (by decide)) (f3.1 3 (by decide)) (f1.2 0 (by decide)) (f3.2 8 (by decide)), hr.1.2.1.cg (f1.2 13 (by decide)) (f3.2 7 (by decide)), hr.1.2.2.cg (f1.1 9 (by decide)) (f1.1 10 (by decide)) (fun k h1 h2 => f1.2 k ((by decide : ∀ k, k < 7 → 1 ≤ k → ¬ k ∈ fwM_L_life) k h1 h2)) (f3.1 1 (by decide)) (f3.1 2 (by decide)) (fun k h1 => f3.2 k ((by decide : ∀ k, k < 7 → ¬ k ∈ fwM_X12_life) k h1))⟩, trivial⟩
theorem rq_fate {N : Nat} (hN : 3000000000 ≤ N) {I0 : Nat → Int32} {M0 : Nat → Nat → Int32} {I1 : Nat → Int32} {L1 : Int64} {M1 : Nat → Nat → Int32} {x1 : Int32} {x2 : Int32} {o3 : Nat → Int64} {r1} {r3} (e1 : fL_fate N I0 M0 x1 x2 o3 = some r1) (e3 : fX12_fate N I1 L1 M1 x1 x2 = some r3) (k0 : KX11 I0 M0) (k1 : KX12 I1 M1) (hr : RQ I0 M0 I1 M1) : RQ r1.2.1 r1.2.2.1 r3.2.1 r3.2.2.2 := by
  have f3 := fr_fX12_fate e3
  have f1 := fr_fL_fate e1
  exact ⟨⟨hr.1.1.cg (f1.1 0 (by decide)) (f3.1 3 (by decide)) (f1.2 0 (by decide)) (f3.2 8 (by decide)), hr.1.2.1.cg (f1.2 13 (by decide)) (f3.2 7 (by decide)), hr.1.2.2.cg (f1.1 9 (by decide)) (f1.1 10 (by decide)) (fun k h1 h2 => f1.2 k ((by decide : ∀ k, k < 7 → 1 ≤ k → ¬ k ∈ fwM_L_fate) k h1 h2)) (f3.1 1 (by decide)) (f3.1 2 (by decide)) (fun k h1 => f3.2 k ((by decide : ∀ k, k < 7 → ¬ k ∈ fwM_X12_fate) k h1))⟩, trivial⟩
theorem rq_fates {N : Nat} (hN : 3000000000 ≤ N) {I0 : Nat → Int32} {M0 : Nat → Nat → Int32} {I1 : Nat → Int32} {L1 : Int64} {M1 : Nat → Nat → Int32} {x1 : Int32} {o2 : Nat → Int64} {r1} {r3} (e1 : fL_fates N I0 M0 x1 o2 = some r1) (e3 : fX12_fates N I1 L1 M1 x1 = some r3) (k0 : KX11 I0 M0) (k1 : KX12 I1 M1) (hr : RQ I0 M0 I1 M1) : RQ r1.2.1 r1.2.2.1 r3.2.1 r3.2.2.2 := by
  have f3 := fr_fX12_fates e3
  have f1 := fr_fL_fates e1
  exact ⟨⟨hr.1.1.cg (f1.1 0 (by decide)) (f3.1 3 (by decide)) (f1.2 0 (by decide)) (f3.2 8 (by decide)), hr.1.2.1.cg (f1.2 13 (by decide)) (f3.2 7 (by decide)), hr.1.2.2.cg (f1.1 9 (by decide)) (f1.1 10 (by decide)) (fun k h1 h2 => f1.2 k ((by decide : ∀ k, k < 7 → 1 ≤ k → ¬ k ∈ fwM_L_fates) k h1 h2)) (f3.1 1 (by decide)) (f3.1 2 (by decide)) (fun k h1 => f3.2 k ((by decide : ∀ k, k < 7 → ¬ k ∈ fwM_X12_fates) k h1))⟩, trivial⟩
theorem rq_hits {N : Nat} (hN : 3000000000 ≤ N) {I0 : Nat → Int32} {M0 : Nat → Nat → Int32} {I1 : Nat → Int32} {L1 : Int64} {M1 : Nat → Nat → Int32} {x1 : Int32} {x2 : Int32} {o3 : Nat → Int64} {r1} {r3} (e1 : fL_hits N I0 M0 x1 x2 o3 = some r1) (e3 : fX12_hits N I1 L1 M1 x1 x2 = some r3) (k0 : KX11 I0 M0) (k1 : KX12 I1 M1) (hr : RQ I0 M0 I1 M1) : RQ r1.2.1 r1.2.2.1 r3.2.1 r3.2.2.2 := by
  have f3 := fr_fX12_hits e3
  have f1 := fr_fL_hits e1
  exact ⟨⟨hr.1.1.cg (f1.1 0 (by decide)) (f3.1 3 (by decide)) (f1.2 0 (by decide)) (f3.2 8 (by decide)), hr.1.2.1.cg (f1.2 13 (by decide)) (f3.2 7 (by decide)), hr.1.2.2.cg (f1.1 9 (by decide)) (f1.1 10 (by decide)) (fun k h1 h2 => f1.2 k ((by decide : ∀ k, k < 7 → 1 ≤ k → ¬ k ∈ fwM_L_hits) k h1 h2)) (f3.1 1 (by decide)) (f3.1 2 (by decide)) (fun k h1 => f3.2 k ((by decide : ∀ k, k < 7 → ¬ k ∈ fwM_X12_hits) k h1))⟩, trivial⟩

/-! checks of arguments, class and reference -/
theorem wI_n (x a b : Int32) (la lb : Int) (ha : a.toInt = la) (hb : b.toInt = lb) : (wI x a b = 1 ∧ la ≤ x.toInt ∧ x.toInt ≤ lb) ∨ (wI x a b = 0 ∧ ¬ (la ≤ x.toInt ∧ x.toInt ≤ lb)) := by
  rw [← ha, ← hb]
  exact wI_c x a b
theorem ck_within {N : Nat} {x a b r : Int32} (la lb : Int) (ha : a.toInt = la) (hb : b.toInt = lb) (h : fX11_within N x a b = some r) : (r = 1 ∧ la ≤ x.toInt ∧ x.toInt ≤ lb) ∨ (r = 0 ∧ ¬ (la ≤ x.toInt ∧ x.toInt ≤ lb)) := by
  rw [wn11] at h
  rw [← Option.some.inj h]
  exact wI_n x a b la lb ha hb
theorem ck_within12 {N : Nat} {x a b r : Int32} (la lb : Int) (ha : a.toInt = la) (hb : b.toInt = lb) (h : fX12_within N x a b = some r) : (r = 1 ∧ la ≤ x.toInt ∧ x.toInt ≤ lb) ∨ (r = 0 ∧ ¬ (la ≤ x.toInt ∧ x.toInt ≤ lb)) := ck_within (N := N) la lb ha hb h
theorem ck_isNumber {N : Nat} {x r : Int32} (h : fX11_isNumber N x = some r) : (r = 1 ∧ 0 ≤ x.toInt ∧ x.toInt ≤ 119) ∨ (r = 0 ∧ ¬ (0 ≤ x.toInt ∧ x.toInt ≤ 119)) := by
  unfold fX11_isNumber at h
  obtain ⟨r1, e1, h⟩ := wb_b h
  have h := Option.some.inj (wb_y h).2
  subst h
  exact ck_within 0 119 (by decide) (by decide) e1
/-- a check of the reference: by a condition -/
def CK (P : Prop) (J : Nat → Int32) (L : Int64) (K : Nat → Nat → Int32) (S : Int32 × (Nat → Int32) × Int64 × (Nat → Nat → Int32)) : Prop := (P ∧ S = (1, J, L, K)) ∨ (¬ P ∧ S = (0, upd J 0 1, L, K))
theorem rtb {N : Nat} {J : Nat → Int32} {L : Int64} {K : Nat → Nat → Int32} {S : Int32 × (Nat → Int32) × Int64 × (Nat → Nat → Int32)} {x : Int32} (j0 : J 0 = 0) (h : ((fX12_right N J L K x 1).bind fun r => if r.1 &&& 1 = r.1 then some (r.1, r.2.1, r.2.2.1, r.2.2.2) else none) = some S) : (¬ x = 0 ∧ S = (1, J, L, K)) ∨ (x = 0 ∧ S = (0, upd J 0 1, L, K)) := by
  obtain ⟨r, e, h⟩ := wb_b h
  have h := Option.some.inj (wb_y h).2
  subst h
  rcases rt12 j0 (by decide) e with ⟨a, b⟩ | ⟨a, b⟩
  · exact Or.inl ⟨a, by rw [b]⟩
  · exact Or.inr ⟨a, by rw [b]⟩
theorem rtb0 {N : Nat} {J : Nat → Int32} {L : Int64} {K : Nat → Nat → Int32} {S : Int32 × (Nat → Int32) × Int64 × (Nat → Nat → Int32)} (j0 : J 0 = 0) (h : ((fX12_right N J L K 0 1).bind fun r => if r.1 &&& 1 = r.1 then some (r.1, r.2.1, r.2.2.1, r.2.2.2) else none) = some S) : S = (0, upd J 0 1, L, K) := by
  rcases rtb j0 h with ⟨a, -⟩ | ⟨-, b⟩
  · exact absurd rfl a
  · exact b
theorem rtb1 {N : Nat} {J : Nat → Int32} {L : Int64} {K : Nat → Nat → Int32} {S : Int32 × (Nat → Int32) × Int64 × (Nat → Nat → Int32)} (j0 : J 0 = 0) (h : ((fX12_right N J L K 1 1).bind fun r => if r.1 &&& 1 = r.1 then some (r.1, r.2.1, r.2.2.1, r.2.2.2) else none) = some S) : S = (1, J, L, K) := by
  rcases rtb j0 h with ⟨-, b⟩ | ⟨a, -⟩
  · exact b
  · exact absurd a (by decide)
theorem ck12_isNumber {N : Nat} {J : Nat → Int32} {L : Int64} {K : Nat → Nat → Int32} {x : Int32} {S : Int32 × (Nat → Int32) × Int64 × (Nat → Nat → Int32)} (j0 : J 0 = 0) (h : fX12_isNumber N J L K x = some S) : CK (0 ≤ x.toInt ∧ x.toInt ≤ 119) J L K S := by
  unfold fX12_isNumber at h
  rcases ifr h with ⟨c, h⟩ | ⟨c, h⟩
  · have c := (lt32 rfl (by decide : (0 : Int32).toInt = 0)).mp c
    exact Or.inr ⟨by omega, rtb0 j0 h⟩
  · have c : ¬ _ := fun z => c ((lt32 rfl (by decide : (0 : Int32).toInt = 0)).mpr z)
    rcases ifr h with ⟨d, h⟩ | ⟨d, h⟩
    · have d := (le32 (by decide : (120 : Int32).toInt = 120) rfl).mp d
      exact Or.inr ⟨by omega, rtb0 j0 h⟩
    · have d : ¬ _ := fun z => d ((le32 (by decide : (120 : Int32).toInt = 120) rfl).mpr z)
      exact Or.inl ⟨by omega, rtb1 j0 h⟩
/-- the relation does not see the reference's 'thrown' -/
theorem RR.j0 {I0 I1 : Nat → Int32} {M0 M1 : Nat → Nat → Int32} (h : RR I0 M0 I1 M1) (v : Int32) : RR I0 M0 (upd I1 0 v) M1 := h
/-! CLIMBS and their PLACES, of both -/
theorem psm_sm {f : Nat → Int32} {o : Nat} : ∀ n, psm f o n = sm f o n := by
  intro n
  induction n with
  | zero => rfl
  | succ n ih =>
    show psm f o n + (f (o + n)).toInt = sm f o n + (f (o + n)).toInt
    rw [ih]
/-- a told CLIMATE of both -/
def CL (m5 k4 : Nat → Int32) (c : Nat) : Prop := c < 7 ∧ (∀ s : Nat, s ≤ 12 → (m5 (13 * c + s)).toInt = psm k4 (12 * c) s) ∧ (∀ z : Nat, z < 12 → 1 ≤ (k4 (12 * c + z)).toInt ∧ (k4 (12 * c + z)).toInt ≤ 3600) ∧ psm k4 (12 * c) 12 = 3600
theorem CL.of {I J : Nat → Int32} {M K : Nat → Nat → Int32} (ht : HT I M J K) (k1 : RS (J 1) (K 4)) {c : Nat} (hc : (c : Int) < (J 1).toInt) : CL (M 5) (K 4) c := by
  obtain ⟨h1, h2, h3, h4, h5, h6, h7⟩ := ht
  have rv := k1 c hc
  exact ⟨by omega, h6.2 c hc, rv.1, by rw [psm_sm]; exact rv.2⟩
theorem CL.mono {m5 k4 : Nat → Int32} {c : Nat} (h : CL m5 k4 c) : ∀ d s : Nat, s + d ≤ 12 → psm k4 (12 * c) s + (d : Int) ≤ psm k4 (12 * c) (s + d) := by
  intro d
  induction d with
  | zero => intro s hs; simp
  | succ d ih =>
    intro s hs
    have a := ih s (by omega)
    have b := (h.2.2.1 (s + d) (by omega)).1
    show _ ≤ psm k4 (12 * c) (s + d) + (k4 (12 * c + (s + d))).toInt
    omega
theorem CL.rg {m5 k4 : Nat → Int32} {c : Nat} (h : CL m5 k4 c) {s : Nat} (hs : s ≤ 12) : (s : Int) ≤ psm k4 (12 * c) s ∧ psm k4 (12 * c) s ≤ 3600 - (12 - (s : Int)) := by
  have a := h.mono s 0 (by omega)
  have b := h.mono (12 - s) s (by omega)
  rw [Nat.zero_add] at a
  rw [show s + (12 - s) = 12 by omega, h.2.2.2] at b
  have z : psm k4 (12 * c) 0 = 0 := rfl
  omega
theorem i13 {x : Int32} {c s : Nat} (hx : x.toInt = (c : Int)) (hc : c < 7) {y : Int32} (hy : y.toInt = (s : Int)) (hs : s ≤ 13) : ((13 : Int32) * x + y).toInt = ((13 * c + s : Nat) : Int) ∧ ((13 : Int32) * x + y).toNatClampNeg = 13 * c + s ∧ ((13 : Int32) * x + y + 1).toNatClampNeg = 13 * c + (s + 1) := by
  have n13 : (13 : Int32).toInt = 13 := by decide
  have n1 : (1 : Int32).toInt = 1 := by decide
  have x1 := ia_mul 13 13 n13 x (by omega) (by omega)
  have x2 := ia_add ((13 : Int32) * x) y (by omega) (by omega)
  have x3 := ia_add ((13 : Int32) * x + y) 1 (by omega) (by omega)
  rw [cl32, cl32]
  omega
theorem i12 {x : Int32} {c s : Nat} (hx : x.toInt = (c : Int)) (hc : c < 7) {y : Int32} (hy : y.toInt = (s : Int)) (hs : s ≤ 13) : ((12 : Int32) * x + y).toNatClampNeg = 12 * c + s := by
  have n12 : (12 : Int32).toInt = 12 := by decide
  have x1 := ia_mul 12 12 n12 x (by omega) (by omega)
  have x2 := ia_add ((12 : Int32) * x) y (by omega) (by omega)
  rw [cl32]
  omega
theorem en_rg {N : Nat} {I : Nat → Int32} {M : Nat → Nat → Int32} {n e a : Int32} (rg : ∀ j : Nat, -1 ≤ (M 13 j).toInt ∧ (M 13 j).toInt ≤ 389) (h : fX1_degreeOf N I (wb_sh M 13) n e = some a) : -1 ≤ a.toInt ∧ a.toInt ≤ 389 := by
  unfold fX1_degreeOf at h
  obtain ⟨-, h⟩ := wb_n h
  rw [← Option.some.inj h]
  exact rg _
theorem rg_n {a : Int32} (h : -1 ≤ a.toInt ∧ a.toInt ≤ 389) (hn : ¬ a = -1) : 0 ≤ a.toInt ∧ a.toInt ≤ 389 := by
  refine ⟨Int.not_lt.mp (fun z => hn ?_), h.2⟩
  apply t32
  rw [show (-1 : Int32).toInt = -1 from by decide]
  omega
theorem lk_fX0_areOne_L6 {N N2 : Nat} {p q k : Int32}  {I J : Nat → Int32} {L : Int64} {M K : Nat → Nat → Int32} {hI : Nat → Int32} {I2 : Nat → Int32} {hm : Nat → Nat → Int32} (ht : HT I M J K) (er : EnR M K) (rg : ∀ j : Nat, -1 ≤ (M 13 j).toInt ∧ (M 13 j).toInt ≤ 389) (hm6 : hm 0 = M 6) : ∀ (fu fv : Nat) (l0 l1 a b : Int32), fX0_areOne_L6 N hI hm I2 (wb_sh M 13) p q k fu l0 l1 = some a → fX12_areSame_L6 N2 J L K p q k fv l0 l1 = some b → a = b := by
  intro fu
  induction fu with
  | zero => intro fv l0 l1 a b h; cases (show none = some a from h)
  | succ fu ih =>
    intro fv l0 l1 a b h g
    cases fv with
    | zero => cases (show none = some b from g)
    | succ fv =>
      rw [fX0_areOne_L6.eq_2] at h
      rw [fX12_areSame_L6.eq_2] at g
      rcases ifr h with ⟨c1, h⟩ | ⟨c1, h⟩
      · have g := wb_t c1 g
        rcases ifr h with ⟨c2, h⟩ | ⟨c2, h⟩
        · have g := wb_t c2 g
          exact (Option.some.inj h).symm.trans (Option.some.inj g)
        · have g := wb_f c2 g
          exact (Option.some.inj h).symm.trans (Option.some.inj g)
      · have g := wb_f c1 g
        obtain ⟨r3, e4, h⟩ := wb_b h
        obtain ⟨s5, d6, g⟩ := wb_b g
        have k7 := at_eq er e4 d6
        have rg_r3 := en_rg rg e4
        rw [← k7] at g
        obtain ⟨r8, e9, h⟩ := wb_b h
        obtain ⟨s10, d11, g⟩ := wb_b g
        have k12 := at_eq er e9 d11
        have rg_r8 := en_rg rg e9
        rw [← k12] at g
        rcases ifr h with ⟨c13, h⟩ | ⟨c13, h⟩
        · have g := wb_t c13 g
          obtain ⟨v14, e16, h⟩ := wb_v h
          obtain ⟨u15, d17, g⟩ := wb_v g
          rw [e16] at h
          rw [d17] at g
          exact ih fv _ _ a b h g
        · have g := wb_f c13 g
          rcases ifr h with ⟨c18, h⟩ | ⟨c18, h⟩
          · have g := wb_t c18 g
            obtain ⟨v19, e21, h⟩ := wb_v h
            obtain ⟨u20, d22, g⟩ := wb_v g
            rw [e21] at h
            rw [d22] at g
            exact ih fv _ _ a b h g
          · have g := wb_f c18 g
            obtain ⟨r23, e24, h⟩ := wb_b h
            obtain ⟨s25, d26, g⟩ := wb_b g
            have k27 := cst_eq ht hm6 (rg_n rg_r3 (by assumption)) (rg_n rg_r8 (by assumption)) e24 d26
            rw [← k27.1] at g
            rcases ifr h with ⟨c28, h⟩ | ⟨c28, h⟩
            · have g := wb_t c28 g
              obtain ⟨v29, e31, h⟩ := wb_v h
              obtain ⟨u30, d32, g⟩ := wb_v g
              rw [e31] at h
              rw [d32] at g
              obtain ⟨v33, e35, h⟩ := wb_v h
              obtain ⟨u34, d36, g⟩ := wb_v g
              rw [e35] at h
              rw [d36] at g
              exact ih fv _ _ a b h g
            · have g := wb_f c28 g
              obtain ⟨r37, e38, h⟩ := wb_b h
              obtain ⟨s39, d40, g⟩ := wb_b g
              have k41 := cst_eq ht hm6 (rg_n rg_r8 (by assumption)) (rg_n rg_r3 (by assumption)) e38 d40
              rw [← k41.1] at g
              rcases ifr h with ⟨c42, h⟩ | ⟨c42, h⟩
              · have g := wb_t c42 g
                obtain ⟨v43, e45, h⟩ := wb_v h
                obtain ⟨u44, d46, g⟩ := wb_v g
                rw [e45] at h
                rw [d46] at g
                obtain ⟨v47, e49, h⟩ := wb_v h
                obtain ⟨u48, d50, g⟩ := wb_v g
                rw [e49] at h
                rw [d50] at g
                exact ih fv _ _ a b h g
              · have g := wb_f c42 g
                exact (Option.some.inj h).symm.trans (Option.some.inj g)
theorem lk_fX0_areOne {N N2 : Nat} {p q k : Int32} {a b : Int32} {I J : Nat → Int32} {L : Int64} {M K : Nat → Nat → Int32} {hI : Nat → Int32} {I2 : Nat → Int32} {hm : Nat → Nat → Int32} (ht : HT I M J K) (er : EnR M K) (rg : ∀ j : Nat, -1 ≤ (M 13 j).toInt ∧ (M 13 j).toInt ≤ 389) (hm6 : hm 0 = M 6) (h : fX0_areOne N hI hm I2 (wb_sh M 13) p q k = some a) (g : fX12_areSame N2 J L K p q k = some b) : a = b := by
  unfold fX0_areOne at h
  unfold fX12_areSame at g
  exact lk_fX0_areOne_L6 ht er rg hm6 _ _ _ _ a b h g
/-! counts of both -/
/-- a loop that adds: what it adds, as a sum -/
noncomputable def sm2 (d : Nat → Int32) : Nat → Int32
  | 0 => 0
  | n + 1 => sm2 d n + d n
theorem tl1 {N : Nat} {J : Nat → Int32} {L : Int64} {K : Nat → Nat → Int32} {x : Int32} : ∀ (fv : Nat) (y b : Int32), fX12_tells_L4 N J L K x fv 1 y = some b → b = 1 := by
  intro fv
  induction fv with
  | zero => intro y b h; cases (show none = some b from h)
  | succ fv ih =>
    intro y b h
    rw [fX12_tells_L4.eq_2] at h
    rcases ifr h with ⟨c, h⟩ | ⟨c, h⟩
    · exact (Option.some.inj (wb_y h).2).symm
    · have h := wb_f (c := (1 : Int32) = 0) (by decide) h
      obtain ⟨v, ev, h⟩ := wb_v h
      exact ih v b h
theorem tl_l {N N2 : Nat} {I J : Nat → Int32} {L : Int64} {M K : Nat → Nat → Int32} {x : Int32} (er : EnR M K) : ∀ (fu fv : Nat) (y a b : Int32), fX1_tellsSomething_L2 N I (wb_sh M 13) x fu y = some a → fX12_tells_L4 N2 J L K x fv 0 y = some b → a = b ∧ (a = 0 ∨ a = 1) := by
  intro fu
  induction fu with
  | zero => intro fv y a b h; cases (show none = some a from h)
  | succ fu ih =>
    intro fv y a b h g
    cases fv with
    | zero => cases (show none = some b from g)
    | succ fv =>
      rw [fX1_tellsSomething_L2.eq_2] at h
      rw [fX12_tells_L4.eq_2] at g
      rcases ifr h with ⟨c, h⟩ | ⟨c, h⟩
      · have h := Option.some.inj h
        have g := Option.some.inj (wb_y (wb_t c g)).2
        rw [← h, ← g]
        exact ⟨rfl, Or.inl rfl⟩
      · have g := wb_t (c := (0 : Int32) = 0) rfl (wb_f c g)
        obtain ⟨r, e, h⟩ := wb_b h
        obtain ⟨s, d, g⟩ := wb_b g
        have k := at_eq er e d
        rw [← k] at g
        rcases ifr h with ⟨c2, h⟩ | ⟨c2, h⟩
        · have g := wb_t c2 g
          obtain ⟨v, ev, h⟩ := wb_v h
          obtain ⟨w, ew, g⟩ := wb_v g
          rw [ev] at h
          rw [ew] at g
          exact ih fv _ a b h g
        · have g := wb_f c2 g
          obtain ⟨w, ew, g⟩ := wb_v g
          rw [← Option.some.inj h, tl1 fv w b g]
          exact ⟨rfl, Or.inr rfl⟩
theorem tl_eq {N N2 : Nat} {I J : Nat → Int32} {L : Int64} {M K : Nat → Nat → Int32} {x a b : Int32} (er : EnR M K) (h : fX1_tellsSomething N I (wb_sh M 13) x = some a) (g : fX12_tells N2 J L K x = some b) : a = b ∧ (a = 0 ∨ a = 1) := tl_l er N N2 0 a b h g
theorem z32 (x : Int32) : x + 0 = x := Int32.add_zero x
/-- the reference's second loop, with nothing to add -/
theorem c81n {N : Nat} {x : Int32} (h3 : ¬ x = 3) (h5 : ¬ x = 5) : ∀ (fv : Nat) (J : Nat → Int32) (L : Int64) (K : Nat → Nat → Int32) (v y : Int32) S, fX12_count_L81 N x fv J L K v y = some S → S = (if x = 4 then J 3 else v, J, L, K) := by
  intro fv
  induction fv with
  | zero => intro J L K v y S h; cases (show none = some S from h)
  | succ fv ih =>
    intro J L K v y S h
    rw [fX12_count_L81.eq_2] at h
    rcases ifr h with ⟨c, h⟩ | ⟨c, h⟩
    · rcases ifr h with ⟨c4, h⟩ | ⟨c4, h⟩
      · rw [if_pos c4]; exact (Option.some.inj h).symm
      · rw [if_neg c4]; exact (Option.some.inj h).symm
    · have h := wb_f h3 h
      unfold fX12_count_J103 at h
      have h := wb_f h5 h
      obtain ⟨v1, e1, h⟩ := wb_v h
      obtain ⟨v2, e2, h⟩ := wb_v h
      rw [e1, z32] at h
      exact ih J L K v v2 S h
theorem c46 {N N2 : Nat} {I : Nat → Int32} {M : Nat → Nat → Int32} : ∀ (fu fv : Nat) (J : Nat → Int32) (L : Int64) (K : Nat → Nat → Int32) (v y a : Int32) S, EnR M K → fX1_howManyTell_L4 N I (wb_sh M 13) fu v y = some a → fX12_count_L46 N2 2 fv J L K v y = some S → a = S.1 ∧ S.2.1 = J ∧ S.2.2.2 = K := by
  intro fu
  induction fu with
  | zero => intro fv J L K v y a S er h; cases (show none = some a from h)
  | succ fu ih =>
    intro fv J L K v y a S er h g
    cases fv with
    | zero => cases (show none = some S from g)
    | succ fv =>
      rw [fX1_howManyTell_L4.eq_2] at h
      rw [fX12_count_L46.eq_2] at g
      rcases ifr h with ⟨c, h⟩ | ⟨c, h⟩
      · have g := wb_t c g
        have q := c81n (by decide) (by decide) N2 J L K v 0 S g
        rw [if_neg (by decide)] at q
        rw [q, ← Option.some.inj h]
        exact ⟨rfl, rfl, rfl⟩
      · have g := wb_t (c := (2 : Int32) = 2) rfl (wb_f c g)
        obtain ⟨r, e, h⟩ := wb_b h
        obtain ⟨s, d, g⟩ := wb_b g
        have k := (tl_eq er e d).1
        rw [← k] at g
        rcases ifr h with ⟨c2, h⟩ | ⟨c2, h⟩
        · have g := wb_t c2 g
          obtain ⟨v1, e1, h⟩ := wb_v h
          obtain ⟨w1, d1, g⟩ := wb_v g
          obtain ⟨w2, d2, g⟩ := wb_v g
          rw [e1] at h
          rw [d1, d2, z32] at g
          exact ih fv J L K v _ a S er h g
        · have g := wb_f c2 g
          obtain ⟨v1, e1, h⟩ := wb_v h
          obtain ⟨v2, e2, h⟩ := wb_v h
          obtain ⟨w1, d1, g⟩ := wb_v g
          obtain ⟨w2, d2, g⟩ := wb_v g
          rw [e1, e2] at h
          rw [d1, d2] at g
          exact ih fv J L K _ _ a S er h g
/-- the outcomes told, of both -/
noncomputable def OR (M K : Nat → Nat → Int32) : Prop := ∀ j : Nat, j < 20 → M 28 j = K 32 j ∧ (-1 ≤ (M 28 j).toInt ∧ (M 28 j).toInt ≤ 120) ∧ (¬ M 28 j = -1 → M 29 j = K 33 j ∧ 0 ≤ (M 29 j).toInt ∧ (M 29 j).toInt ≤ 120) ∧ M 30 j = K 34 j ∧ -1 ≤ (M 30 j).toInt ∧ (M 30 j).toInt ≤ 12
/-! SEARCHES of both -/
noncomputable def QS (i m0 k : Nat → Int32) : Prop := i 1 = k 0 ∧ i 2 = k 1 ∧ i 3 = k 2 ∧ (0 ≤ (i 1).toInt ∧ (i 1).toInt ≤ 119) ∧ (0 ≤ (i 2).toInt ∧ (i 2).toInt ≤ 3) ∧ (0 ≤ (i 3).toInt ∧ (i 3).toInt ≤ 1000001) ∧ ((i 4 = 1000 ∧ i 5 = 0 ∧ i 6 = -1 ∧ k 3 = -1 ∧ k 4 = 0 ∧ k 5 = -1 ∧ k 6 = -1) ∨ (i 4 = k 3 ∧ (0 ≤ (i 4).toInt ∧ (i 4).toInt ≤ 93) ∧ i 5 = k 4 ∧ 1 ≤ (i 5).toInt ∧ (i 5).toInt ≤ (i 3).toInt ∧ m0 0 = k 5 ∧ i 6 = k 6))
/-! ERRORS of both -/
noncomputable def bb (p q r s : Bool) : Int32 := nI ((if p then 1 else 0) + (if q then 2 else 0) + (if r then 4 else 0) + (if s then 8 else 0))
/-- what a WANDERER adds -/
noncomputable def ecf (c : Int32) : Int32 := if c = -1 then 0 else 1
noncomputable def scf (s c : Int32) : Int32 := if c = -1 then 0 else if ((c >>> (s &&& 31)) &&& 1) = 1 then 1 else 0
noncomputable def acf (s c : Int32) : Int32 := if c = ((1 : Int32) <<< (s &&& 31)) then 1 else 0
noncomputable def wcf (s c : Int32) : Int32 := if scf s c = 0 then 0 else if (fJ6_bitCount_0f7a4 0 c).getD 0 ≤ 0 then 0 else 6 / (fJ6_bitCount_0f7a4 0 c).getD 0
/-! the reference's rows -/
noncomputable def up3 (K : Nat → Nat → Int32) (s : Nat) (p : Bool) (b : Int32) : Nat → Nat → Int32 := if p then wb_um (wb_um (wb_um K 20 s (K 20 s + 1)) 21 s (K 21 s + (if b = 1 then 1 else 0))) 22 s (K 22 s + 6 / b) else K
theorem up3_v {K : Nat → Nat → Int32} {s : Nat} {p : Bool} {b : Int32} (t : Nat) : up3 K s p b 20 t = (if t = s then K 20 t + (if p then 1 else 0) else K 20 t) ∧ up3 K s p b 21 t = (if t = s then K 21 t + (if p then (if b = 1 then 1 else 0) else 0) else K 21 t) ∧ up3 K s p b 22 t = (if t = s then K 22 t + (if p then 6 / b else 0) else K 22 t) := by
  unfold up3
  cases p with
  | false =>
    simp only [Bool.false_eq_true, if_false, z32, ite_self]
    exact ⟨trivial, trivial, trivial⟩
  | true =>
    simp only [if_true]
    refine ⟨?_, ?_, ?_⟩
    · show upd (K 20) s (K 20 s + 1) t = _
      unfold upd
      by_cases e : t = s
      · rw [if_pos e, if_pos e, e]
      · rw [if_neg e, if_neg e]
    · show upd (K 21) s (K 21 s + (if b = 1 then 1 else 0)) t = _
      unfold upd
      by_cases e : t = s
      · rw [if_pos e, if_pos e, e]
      · rw [if_neg e, if_neg e]
    · show upd (K 22) s (K 22 s + 6 / b) t = _
      unfold upd
      by_cases e : t = s
      · rw [if_pos e, if_pos e, e]
      · rw [if_neg e, if_neg e]
/-- a WANDERER's part in the rows: eight cases -/
theorem cod (q r s : Bool) : ecf (bb false q r s) = 1 ∧ (scf 1 (bb false q r s) = (if q then 1 else 0) ∧ scf 2 (bb false q r s) = (if r then 1 else 0) ∧ scf 3 (bb false q r s) = (if s then 1 else 0)) ∧ (∀ b : Int32, b = (0 : Int32) + (if q then 1 else 0) + (if r then 1 else 0) + (if s then 1 else 0) → (acf 1 (bb false q r s) = (if q then (if b = 1 then 1 else 0) else 0) ∧ acf 2 (bb false q r s) = (if r then (if b = 1 then 1 else 0) else 0) ∧ acf 3 (bb false q r s) = (if s then (if b = 1 then 1 else 0) else 0)) ∧ (wcf 1 (bb false q r s) = (if q then 6 / b else 0) ∧ wcf 2 (bb false q r s) = (if r then 6 / b else 0) ∧ wcf 3 (bb false q r s) = (if s then 6 / b else 0))) := by
  refine ⟨?_, ?_, fun b hb => ?_⟩
  · revert q r s; decide +kernel
  · revert q r s; decide +kernel
  · subst hb
    revert q r s; decide +kernel
theorem cod0 : ecf (-1) = 0 ∧ (scf 1 (-1) = 0 ∧ scf 2 (-1) = 0 ∧ scf 3 (-1) = 0) ∧ (acf 1 (-1) = 0 ∧ acf 2 (-1) = 0 ∧ acf 3 (-1) = 0) ∧ (wcf 1 (-1) = 0 ∧ wcf 2 (-1) = 0 ∧ wcf 3 (-1) = 0) := by decide +kernel
/-- the reference's rows hold the sums of the class's codes -/
noncomputable def EV (m : Nat → Int32) (K : Nat → Nat → Int32) (v : Int32) (k : Nat) : Prop := v = sm2 (fun j => ecf (m j)) k ∧ (K 20 1 = sm2 (fun j => scf 1 (m j)) k ∧ K 20 2 = sm2 (fun j => scf 2 (m j)) k ∧ K 20 3 = sm2 (fun j => scf 3 (m j)) k) ∧ (K 21 1 = sm2 (fun j => acf 1 (m j)) k ∧ K 21 2 = sm2 (fun j => acf 2 (m j)) k ∧ K 21 3 = sm2 (fun j => acf 3 (m j)) k) ∧ (K 22 1 = sm2 (fun j => wcf 1 (m j)) k ∧ K 22 2 = sm2 (fun j => wcf 2 (m j)) k ∧ K 22 3 = sm2 (fun j => wcf 3 (m j)) k)
theorem EV.zero {m : Nat → Int32} {K : Nat → Nat → Int32} {v : Int32} {k : Nat} (h : EV m K v k) (hc : m k = -1) : EV m K v (k + 1) := by
  obtain ⟨a, ⟨b1, b2, b3⟩, ⟨c1, c2, c3⟩, d1, d2, d3⟩ := h
  obtain ⟨q, ⟨r1, r2, r3⟩, ⟨s1, s2, s3⟩, t1, t2, t3⟩ := cod0
  have e : ∀ f : Int32 → Int32, f (-1) = 0 → sm2 (fun j => f (m j)) (k + 1) = sm2 (fun j => f (m j)) k := by
    intro f hf
    show sm2 (fun j => f (m j)) k + f (m k) = _
    rw [hc, hf, z32]
  exact ⟨by rw [e ecf q]; exact a, ⟨by rw [e (scf 1) r1]; exact b1, by rw [e (scf 2) r2]; exact b2, by rw [e (scf 3) r3]; exact b3⟩, ⟨by rw [e (acf 1) s1]; exact c1, by rw [e (acf 2) s2]; exact c2, by rw [e (acf 3) s3]; exact c3⟩, by rw [e (wcf 1) t1]; exact d1, by rw [e (wcf 2) t2]; exact d2, by rw [e (wcf 3) t3]; exact d3⟩
theorem EV.add {m : Nat → Int32} {K : Nat → Nat → Int32} {v : Int32} {k : Nat} {p q r : Bool} {b : Int32} (h : EV m K v k) (hc : m k = bb false p q r) (hb : b = (0 : Int32) + (if p then 1 else 0) + (if q then 1 else 0) + (if r then 1 else 0)) : EV m (up3 (up3 (up3 K 1 p b) 2 q b) 3 r b) (v + 1) (k + 1) := by
  obtain ⟨a, ⟨b1, b2, b3⟩, ⟨c1, c2, c3⟩, d1, d2, d3⟩ := h
  obtain ⟨x, ⟨r1, r2, r3⟩, y⟩ := cod p q r
  obtain ⟨⟨s1, s2, s3⟩, t1, t2, t3⟩ := y b hb
  have e : ∀ (f : Int32 → Int32) (z w : Int32), f (bb false p q r) = z → w = sm2 (fun j => f (m j)) k → w + z = sm2 (fun j => f (m j)) (k + 1) := by
    intro f z w hf hw
    show _ = sm2 (fun j => f (m j)) k + f (m k)
    rw [hc, hf, hw]
  have u : ∀ (j t : Nat), (j = 20 ∨ j = 21 ∨ j = 22) → (t = 1 ∨ t = 2 ∨ t = 3) → up3 (up3 (up3 K 1 p b) 2 q b) 3 r b j t = K j t + (if j = 20 then (if (if t = 1 then p else if t = 2 then q else r) then 1 else 0) else if j = 21 then (if (if t = 1 then p else if t = 2 then q else r) then (if b = 1 then 1 else 0) else 0) else (if (if t = 1 then p else if t = 2 then q else r) then 6 / b else 0)) := by
    intro j t hj ht
    have v1 := up3_v (K := K) (s := 1) (p := p) (b := b) t
    have v2 := up3_v (K := up3 K 1 p b) (s := 2) (p := q) (b := b) t
    have v3 := up3_v (K := up3 (up3 K 1 p b) 2 q b) (s := 3) (p := r) (b := b) t
    rcases hj with rfl | rfl | rfl
    · rw [v3.1, v2.1, v1.1]
      rcases ht with rfl | rfl | rfl <;> simp
    · rw [v3.2.1, v2.2.1, v1.2.1]
      rcases ht with rfl | rfl | rfl <;> simp
    · rw [v3.2.2, v2.2.2, v1.2.2]
      rcases ht with rfl | rfl | rfl <;> simp
  refine ⟨e ecf 1 v x a, ⟨?_, ?_, ?_⟩, ⟨?_, ?_, ?_⟩, ?_, ?_, ?_⟩
  · rw [u 20 1 (by omega) (by omega)]; exact e (scf 1) _ _ r1 b1
  · rw [u 20 2 (by omega) (by omega)]; exact e (scf 2) _ _ r2 b2
  · rw [u 20 3 (by omega) (by omega)]; exact e (scf 3) _ _ r3 b3
  · rw [u 21 1 (by omega) (by omega)]; exact e (acf 1) _ _ s1 c1
  · rw [u 21 2 (by omega) (by omega)]; exact e (acf 2) _ _ s2 c2
  · rw [u 21 3 (by omega) (by omega)]; exact e (acf 3) _ _ s3 c3
  · rw [u 22 1 (by omega) (by omega)]; exact e (wcf 1) _ _ t1 d1
  · rw [u 22 2 (by omega) (by omega)]; exact e (wcf 2) _ _ t2 d2
  · rw [u 22 3 (by omega) (by omega)]; exact e (wcf 3) _ _ t3 d3
/-! ahead of the answers -/
/-- the latest BEST of both -/
noncomputable def QBR (I : Nat → Int32) (M : Nat → Nat → Int32) (J : Nat → Int32) (K : Nat → Nat → Int32) : Prop := (I 13 = 0 ∧ J 15 = -1) ∨ (I 13 = 1 ∧ I 18 = J 15 ∧ 1 ≤ (I 18).toInt ∧ ∀ j : Nat, j < 20 → (j : Int) < (I 18).toInt → M 16 j = K 17 j)
theorem QBR.cg {I I' J J' : Nat → Int32} {M M' K K' : Nat → Nat → Int32} (h : QBR I M J K) (a : I' 13 = I 13) (b : I' 18 = I 18) (c : M' 16 = M 16) (d : J' 15 = J 15) (e : K' 17 = K 17) : QBR I' M' J' K' := by
  unfold QBR at h ⊢
  rw [a, b, c, d, e]
  exact h
/-! SEARCH, image, LEAVES, outcomes: relations and answers -/
noncomputable def QSR (I : Nat → Int32) (M : Nat → Nat → Int32) (J : Nat → Int32) (K : Nat → Nat → Int32) : Prop := I 27 = J 16 ∧ (¬ I 27 = 0 → QS (wb_sh I 27) (M 18) (K 18))
noncomputable def QIR (I : Nat → Int32) (M : Nat → Nat → Int32) (J : Nat → Int32) (K : Nat → Nat → Int32) : Prop := I 34 = J 17 ∧ (¬ I 34 = 0 → QS (wb_sh I 34) (M 19) (K 19))
noncomputable def QL (I : Nat → Int32) (M : Nat → Nat → Int32) (J : Nat → Int32) (K : Nat → Nat → Int32) : Prop := ∀ b : Nat, b < 6 → M 24 b = K 27 b ∧ ∀ i : Nat, (i : Int) < (K 27 b).toInt → M 23 (20 * b + i) = K 28 (20 * b + i)
noncomputable def QO (I : Nat → Int32) (M : Nat → Nat → Int32) (J : Nat → Int32) (K : Nat → Nat → Int32) : Prop := OR M K
theorem QS.cg {i i' m m' k : Nat → Int32} (h : QS i m k) (a : ∀ j, j < 7 → i' j = i j) (b : m' 0 = m 0) : QS i' m' k := by
  unfold QS at h ⊢
  rw [a 1 (by omega), a 2 (by omega), a 3 (by omega), a 4 (by omega), a 5 (by omega), a 6 (by omega), b]
  exact h
theorem QSR.cg {I I' J J' : Nat → Int32} {M M' K K' : Nat → Nat → Int32} (h : QSR I M J K) (a : ∀ j, j < 34 → 27 ≤ j → I' j = I j) (c : M' 18 = M 18) (d : J' 16 = J 16) (e : K' 18 = K 18) : QSR I' M' J' K' := by
  unfold QSR at h ⊢
  rw [a 27 (by omega) (by omega), c, d, e]
  exact ⟨h.1, fun z => (h.2 z).cg (fun j hj => a (j + 27) (by omega) (by omega)) rfl⟩
theorem QIR.cg {I I' J J' : Nat → Int32} {M M' K K' : Nat → Nat → Int32} (h : QIR I M J K) (a : ∀ j, j < 41 → 34 ≤ j → I' j = I j) (c : M' 19 = M 19) (d : J' 17 = J 17) (e : K' 19 = K 19) : QIR I' M' J' K' := by
  unfold QIR at h ⊢
  rw [a 34 (by omega) (by omega), c, d, e]
  exact ⟨h.1, fun z => (h.2 z).cg (fun j hj => a (j + 34) (by omega) (by omega)) rfl⟩
theorem QL.cg {I I' J J' : Nat → Int32} {M M' K K' : Nat → Nat → Int32} (h : QL I M J K) (a : M' 23 = M 23) (b : M' 24 = M 24) (c : K' 27 = K 27) (d : K' 28 = K 28) : QL I' M' J' K' := by
  unfold QL at h ⊢
  rw [a, b, c, d]
  exact h
theorem QO.cg {I I' J J' : Nat → Int32} {M M' K K' : Nat → Nat → Int32} (h : QO I M J K) (a : M' 28 = M 28) (b : M' 29 = M 29) (c : M' 30 = M 30) (d : K' 32 = K 32) (e : K' 33 = K 33) (f : K' 34 = K 34) : QO I' M' J' K' := by
  unfold QO OR at h ⊢
  rw [a, b, c, d, e, f]
  exact h
/-! DAYS that are kept -/
/-! LEAVES -/
/-! how many -/
theorem fin_1b {x : Option (Nat ⊕ Int32)} {I : Nat → Int32} {M : Nat → Nat → Int32} {o : Nat → Int64} {r : Int32 × (Nat → Int32) × (Nat → Nat → Int32) × (Nat → Int64)} {j s : Int32} (h : wb_hp x (fun k => if k = 1 then some ((1 : Int32), I, M, o) else none) (fun r => if r = 0 then ((some (vp_updL o ((0 : Int32)).toNatClampNeg (0 : Int64))).bind fun o1 => some ((0 : Int32), I, M, o1)) else (some (vp_updL o ((0 : Int32)).toNatClampNeg (1 : Int64))).bind fun o2 => some ((0 : Int32), I, M, o2)) = some r) (key : ∀ q, x = some q → (q = .inl 1 ∧ j = 1) ∨ ∃ a, q = .inr a ∧ j = 0 ∧ a = s) : j = r.1 ∧ (r.1 = 0 → (s = 0 → r.2.2.2 0 = 0) ∧ (¬ s = 0 → r.2.2.2 0 = 1)) := by
  rcases fr_hp h with ⟨k, e, h⟩ | ⟨a, e, h⟩
  · obtain ⟨c, h⟩ := wb_y h
    have h := Option.some.inj h
    rcases key _ e with ⟨-, w⟩ | ⟨a, w, -⟩
    · rw [← h]
      exact ⟨w, fun z => absurd z (by show ¬ (1 : Int32) = 0; decide)⟩
    · cases w
  · rcases key _ e with ⟨w, -⟩ | ⟨a2, w, w2, w3⟩
    · cases w
    · have w := Sum.inr.inj w
      rw [← w] at w3
      rcases ifr h with ⟨c, h⟩ | ⟨c, h⟩
      · obtain ⟨o1, eo, h⟩ := wb_v h
        rw [← Option.some.inj h]
        refine ⟨w2, fun _ => ⟨fun _ => ?_, fun z => absurd (w3 ▸ c) z⟩⟩
        show o1 0 = 0
        rw [eo]
        rfl
      · obtain ⟨o1, eo, h⟩ := wb_v h
        rw [← Option.some.inj h]
        refine ⟨w2, fun _ => ⟨fun z => absurd (w3.trans z) c, fun _ => ?_⟩⟩
        show o1 0 = 1
        rw [eo]
        rfl
theorem an_same {N : Nat} (hN : 3000000000 ≤ N) {I0 I1 : Nat → Int32} {M0 M1 : Nat → Nat → Int32} {L1 : Int64} {x1 x2 x3 : Int32} {o : Nat → Int64} {r : Int32 × (Nat → Int32) × (Nat → Nat → Int32) × (Nat → Int64)} {s : Int32 × (Nat → Int32) × Int64 × (Nat → Nat → Int32)} (k0 : KX11 I0 M0) (k1 : KX12 I1 M1) (e1 : fL_same N I0 M0 x1 x2 x3 o = some r) (e3 : fX12_same N I1 L1 M1 x1 x2 x3 = some s) (hr : RR I0 M0 I1 M1) : s.2.1 0 = r.1 ∧ (r.1 = 0 → (s.1 = 0 → r.2.2.2 0 = 0) ∧ (¬ s.1 = 0 → r.2.2.2 0 = 1)) := by
  unfold fL_same at e1
  have hr0 := hr.j0 0
  have u1 : (upd I1 0 0 1).toInt = (I1 1).toInt := rfl
  have ht := hr.2.2
  have er := hr.2.1
  have h91 := congrArg Int32.toInt ht.1
  have u2 : (((1 : Int32), upd I1 0 0, L1, M1).snd.fst 1).toInt = (I1 1).toInt := rfl
  have i9 := k0.i9
  have key : ∀ q, fX11_same N I0 M0 x1 x2 x3 = some q → (q = .inl 1 ∧ s.2.1 0 = 1) ∨ ∃ a, q = .inr a ∧ s.2.1 0 = 0 ∧ a = s.1 := by
    intro q h
    unfold fX11_same at h
    obtain ⟨r1, e2, h⟩ := wb_b h
    rcases ck_isNumber e2 with ⟨q3, c4⟩ | ⟨q3, c4⟩
    · have h := wb_f (by rw [q3]; decide) h
      obtain ⟨r5, e6, h⟩ := wb_b h
      rcases ck_isNumber e6 with ⟨q7, c8⟩ | ⟨q7, c8⟩
      · have h := wb_f (by rw [q7]; decide) h
        obtain ⟨r9, e10, h⟩ := wb_b h
        rcases ck_within (1) (7) (by decide) (by decide) e10 with ⟨q11, c12⟩ | ⟨q11, c12⟩
        · have h := wb_f (by rw [q11]; decide) h
          unfold fX11_same_J29 at h
          rcases nd11 h with ⟨c13, h⟩ | ⟨c13, h⟩
          · exact absurd c13 (show ¬ (1 : Int32) = 0 by decide)
          · obtain ⟨a, ha, h⟩ := oki h
            have g := e3
            unfold fX12_same at g
            obtain ⟨J14, eJ15, g⟩ := wb_v g
            subst eJ15
            obtain ⟨r16, e17, g⟩ := wb_b g
            rcases ck_within12 (1) (7) (by decide) (by decide) e17 with ⟨q18, c19⟩ | ⟨q18, c19⟩
            · obtain ⟨r20, e21, g⟩ := wb_b g
              rcases rt12 rfl (by decide) e21 with ⟨c23, q22⟩ | ⟨c23, q22⟩
              · subst q22
                have g := wb_f (c := (1 : Int32) = 0) (by decide) g
                obtain ⟨r24, e25, g⟩ := wb_b g
                rcases ck12_isNumber rfl e25 with ⟨c27, q26⟩ | ⟨c27, q26⟩
                · subst q26
                  have g := wb_f (c := (1 : Int32) = 0) (by decide) g
                  obtain ⟨r28, e29, g⟩ := wb_b g
                  rcases ck12_isNumber rfl e29 with ⟨c31, q30⟩ | ⟨c31, q30⟩
                  · subst q30
                    have g := wb_f (c := (1 : Int32) = 0) (by decide) g
                    obtain ⟨a2, f2, h⟩ := wb_b h
                    obtain ⟨b2, g2, g⟩ := wb_b g
                    have h := Option.some.inj (wb_y h).2
                    have g := Option.some.inj (wb_y g).2
                    subst h
                    subst g
                    exact Or.inr ⟨_, ha, rfl, lk_fX0_areOne (hm := wb_sh M0 6) hr0.2.2 er k0.m13 rfl f2 g2⟩
                  · subst q30
                    have g := wb_t (c := (0 : Int32) = 0) rfl g
                    have g := Option.some.inj g
                    subst g
                    exfalso
                    omega
                · subst q26
                  have g := wb_t (c := (0 : Int32) = 0) rfl g
                  have g := Option.some.inj g
                  subst g
                  exfalso
                  omega
              · exact absurd c23 (by rw [q18]; decide)
            · obtain ⟨r32, e33, g⟩ := wb_b g
              rcases rt12 rfl (by decide) e33 with ⟨c35, q34⟩ | ⟨c35, q34⟩
              · exact absurd q18 c35
              · subst q34
                have g := wb_t (c := (0 : Int32) = 0) rfl g
                have g := Option.some.inj g
                subst g
                exfalso
                omega
        · have h := wb_t q11 h
          unfold fX11_same_J28 at h
          unfold fX11_same_J29 at h
          rcases nd11 h with ⟨c36, h⟩ | ⟨c36, h⟩
          · have g := e3
            unfold fX12_same at g
            obtain ⟨J37, eJ38, g⟩ := wb_v g
            subst eJ38
            obtain ⟨r39, e40, g⟩ := wb_b g
            rcases ck_within12 (1) (7) (by decide) (by decide) e40 with ⟨q41, c42⟩ | ⟨q41, c42⟩
            · obtain ⟨r43, e44, g⟩ := wb_b g
              rcases rt12 rfl (by decide) e44 with ⟨c46, q45⟩ | ⟨c46, q45⟩
              · subst q45
                have g := wb_f (c := (1 : Int32) = 0) (by decide) g
                obtain ⟨r47, e48, g⟩ := wb_b g
                rcases ck12_isNumber rfl e48 with ⟨c50, q49⟩ | ⟨c50, q49⟩
                · subst q49
                  have g := wb_f (c := (1 : Int32) = 0) (by decide) g
                  obtain ⟨r51, e52, g⟩ := wb_b g
                  rcases ck12_isNumber rfl e52 with ⟨c54, q53⟩ | ⟨c54, q53⟩
                  · subst q53
                    have g := wb_f (c := (1 : Int32) = 0) (by decide) g
                    exfalso
                    omega
                  · subst q53
                    have g := wb_t (c := (0 : Int32) = 0) rfl g
                    have g := Option.some.inj g
                    subst g
                    exact Or.inl ⟨h, rfl⟩
                · subst q49
                  have g := wb_t (c := (0 : Int32) = 0) rfl g
                  have g := Option.some.inj g
                  subst g
                  exact Or.inl ⟨h, rfl⟩
              · exact absurd c46 (by rw [q41]; decide)
            · obtain ⟨r55, e56, g⟩ := wb_b g
              rcases rt12 rfl (by decide) e56 with ⟨c58, q57⟩ | ⟨c58, q57⟩
              · exact absurd q41 c58
              · subst q57
                have g := wb_t (c := (0 : Int32) = 0) rfl g
                have g := Option.some.inj g
                subst g
                exact Or.inl ⟨h, rfl⟩
          · exact absurd rfl c36
      · have h := wb_t q7 h
        unfold fX11_same_J28 at h
        unfold fX11_same_J29 at h
        rcases nd11 h with ⟨c59, h⟩ | ⟨c59, h⟩
        · have g := e3
          unfold fX12_same at g
          obtain ⟨J60, eJ61, g⟩ := wb_v g
          subst eJ61
          obtain ⟨r62, e63, g⟩ := wb_b g
          rcases ck_within12 (1) (7) (by decide) (by decide) e63 with ⟨q64, c65⟩ | ⟨q64, c65⟩
          · obtain ⟨r66, e67, g⟩ := wb_b g
            rcases rt12 rfl (by decide) e67 with ⟨c69, q68⟩ | ⟨c69, q68⟩
            · subst q68
              have g := wb_f (c := (1 : Int32) = 0) (by decide) g
              obtain ⟨r70, e71, g⟩ := wb_b g
              rcases ck12_isNumber rfl e71 with ⟨c73, q72⟩ | ⟨c73, q72⟩
              · subst q72
                have g := wb_f (c := (1 : Int32) = 0) (by decide) g
                obtain ⟨r74, e75, g⟩ := wb_b g
                rcases ck12_isNumber rfl e75 with ⟨c77, q76⟩ | ⟨c77, q76⟩
                · subst q76
                  have g := wb_f (c := (1 : Int32) = 0) (by decide) g
                  exfalso
                  omega
                · subst q76
                  have g := wb_t (c := (0 : Int32) = 0) rfl g
                  have g := Option.some.inj g
                  subst g
                  exact Or.inl ⟨h, rfl⟩
              · subst q72
                have g := wb_t (c := (0 : Int32) = 0) rfl g
                have g := Option.some.inj g
                subst g
                exact Or.inl ⟨h, rfl⟩
            · exact absurd c69 (by rw [q64]; decide)
          · obtain ⟨r78, e79, g⟩ := wb_b g
            rcases rt12 rfl (by decide) e79 with ⟨c81, q80⟩ | ⟨c81, q80⟩
            · exact absurd q64 c81
            · subst q80
              have g := wb_t (c := (0 : Int32) = 0) rfl g
              have g := Option.some.inj g
              subst g
              exact Or.inl ⟨h, rfl⟩
        · exact absurd rfl c59
    · have h := wb_t q3 h
      unfold fX11_same_J28 at h
      unfold fX11_same_J29 at h
      rcases nd11 h with ⟨c82, h⟩ | ⟨c82, h⟩
      · have g := e3
        unfold fX12_same at g
        obtain ⟨J83, eJ84, g⟩ := wb_v g
        subst eJ84
        obtain ⟨r85, e86, g⟩ := wb_b g
        rcases ck_within12 (1) (7) (by decide) (by decide) e86 with ⟨q87, c88⟩ | ⟨q87, c88⟩
        · obtain ⟨r89, e90, g⟩ := wb_b g
          rcases rt12 rfl (by decide) e90 with ⟨c92, q91⟩ | ⟨c92, q91⟩
          · subst q91
            have g := wb_f (c := (1 : Int32) = 0) (by decide) g
            obtain ⟨r93, e94, g⟩ := wb_b g
            rcases ck12_isNumber rfl e94 with ⟨c96, q95⟩ | ⟨c96, q95⟩
            · subst q95
              have g := wb_f (c := (1 : Int32) = 0) (by decide) g
              obtain ⟨r97, e98, g⟩ := wb_b g
              rcases ck12_isNumber rfl e98 with ⟨c100, q99⟩ | ⟨c100, q99⟩
              · subst q99
                have g := wb_f (c := (1 : Int32) = 0) (by decide) g
                exfalso
                omega
              · subst q99
                have g := wb_t (c := (0 : Int32) = 0) rfl g
                have g := Option.some.inj g
                subst g
                exact Or.inl ⟨h, rfl⟩
            · subst q95
              have g := wb_t (c := (0 : Int32) = 0) rfl g
              have g := Option.some.inj g
              subst g
              exact Or.inl ⟨h, rfl⟩
          · exact absurd c92 (by rw [q87]; decide)
        · obtain ⟨r101, e102, g⟩ := wb_b g
          rcases rt12 rfl (by decide) e102 with ⟨c104, q103⟩ | ⟨c104, q103⟩
          · exact absurd q87 c104
          · subst q103
            have g := wb_t (c := (0 : Int32) = 0) rfl g
            have g := Option.some.inj g
            subst g
            exact Or.inl ⟨h, rfl⟩
      · exact absurd rfl c82
  exact fin_1b e1 key
/-- class and reference side by side -/
def RQ (I0 : Nat → Int32) (M0 : Nat → Nat → Int32) (I1 : Nat → Int32) (M1 : Nat → Nat → Int32) : Prop := RR I0 M0 I1 M1 ∧ True
theorem RQ_fresh : RQ fx_I fx_M fm_I fm_M := ⟨RR_fresh, trivial⟩
theorem rq_feed {N : Nat} (hN : 3000000000 ≤ N) {I0 : Nat → Int32} {M0 : Nat → Nat → Int32} {I1 : Nat → Int32} {L1 : Int64} {M1 : Nat → Nat → Int32} {x1 : Int32} {x2 : Int32} {x3 : Int32} {x4 : Int32} {x5 : Int32} {r1} {r2} (e1 : fX11_feed N I0 M0 x1 x2 x3 x4 x5 = some r1) (e3 : fX12_feed N I1 L1 M1 x1 x2 x3 x4 x5 = some r2) (k0 : KX11 I0 M0) (k1 : KX12 I1 M1) (hr : RQ I0 M0 I1 M1) : RQ r1.2.1 r1.2.2 r2.2.1 r2.2.2.2 := by
  have f3 := fr_fX12_feed e3
  have f1 := fr_fX11_feed e1
  exact ⟨⟨hd_T_feed e1 e3 hr.1, hr.1.2.1.cg (f1.2 13 (by decide)) (f3.2 7 (by decide)), hr.1.2.2.cg (f1.1 9 (by decide)) (f1.1 10 (by decide)) (fun k h1 h2 => f1.2 k ((by decide : ∀ k, k < 7 → 1 ≤ k → ¬ k ∈ fwM_X11_feed) k h1 h2)) (f3.1 1 (by decide)) (f3.1 2 (by decide)) (fun k h1 => f3.2 k ((by decide : ∀ k, k < 7 → ¬ k ∈ fwM_X12_feed) k h1))⟩, trivial⟩
theorem rq_house {N : Nat} (hN : 3000000000 ≤ N) {I0 : Nat → Int32} {M0 : Nat → Nat → Int32} {I1 : Nat → Int32} {L1 : Int64} {M1 : Nat → Nat → Int32} {x1 : Int32} {o2 : Nat → Int64} {r1} {r3} (e1 : fL_house N I0 M0 x1 o2 = some r1) (e3 : fX12_house N I1 L1 M1 x1 = some r3) (k0 : KX11 I0 M0) (k1 : KX12 I1 M1) (hr : RQ I0 M0 I1 M1) : RQ r1.2.1 r1.2.2.1 r3.2.1 r3.2.2.2 := by
  have f3 := fr_fX12_house e3
  have f1 := fr_fL_house e1
  exact ⟨⟨(hs_house e1 e3 hr.1).1, hr.1.2.1.cg (f1.2 13 (by decide)) (f3.2 7 (by decide)), (hs_house e1 e3 hr.1).2⟩, trivial⟩
theorem rq_wheel {N : Nat} (hN : 3000000000 ≤ N) {I0 : Nat → Int32} {M0 : Nat → Nat → Int32} {I1 : Nat → Int32} {L1 : Int64} {M1 : Nat → Nat → Int32} {x1 : Int32} {x2 : Int32} {x3 : Int32} {o4 : Nat → Int64} {r1} {r3} (e1 : fL_wheel N I0 M0 x1 x2 x3 o4 = some r1) (e3 : fX12_wheel N I1 L1 M1 x1 x2 x3 = some r3) (k0 : KX11 I0 M0) (k1 : KX12 I1 M1) (hr : RQ I0 M0 I1 M1) : RQ r1.2.1 r1.2.2.1 r3.2.1 r3.2.2.2 := by
  have f3 := fr_fX12_wheel e3
  have f1 := fr_fL_wheel e1
  exact ⟨⟨(hs_wheel hN e1 e3 hr.1).1, (hs_wheel hN e1 e3 hr.1).2.1, hr.1.2.2.cg (f1.1 9 (by decide)) (f1.1 10 (by decide)) (fun k h1 h2 => f1.2 k ((by decide : ∀ k, k < 7 → 1 ≤ k → ¬ k ∈ fwM_L_wheel) k h1 h2)) (f3.1 1 (by decide)) (f3.1 2 (by decide)) (fun k h1 => f3.2 k ((by decide : ∀ k, k < 7 → ¬ k ∈ fwM_X12_wheel) k h1))⟩, trivial⟩
theorem rq_fault {N : Nat} (hN : 3000000000 ≤ N) {I0 : Nat → Int32} {M0 : Nat → Nat → Int32} {I1 : Nat → Int32} {L1 : Int64} {M1 : Nat → Nat → Int32} {r1} {r2} (e1 : fX11_fault N I0 M0  = some r1) (e3 : fX12_fault N I1 L1 M1  = some r2) (k0 : KX11 I0 M0) (k1 : KX12 I1 M1) (hr : RQ I0 M0 I1 M1) : RQ I0 M0 r2.2.1 r2.2.2.2 := by
  have f3 := fr_fX12_fault e3
  exact ⟨⟨hr.1.1.cg rfl (f3.1 3 (by decide)) rfl (f3.2 8 (by decide)), hr.1.2.1.cg rfl (f3.2 7 (by decide)), hr.1.2.2.cg rfl rfl (fun _ _ _ => rfl) (f3.1 1 (by decide)) (f3.1 2 (by decide)) (fun k h1 => f3.2 k ((by decide : ∀ k, k < 7 → ¬ k ∈ fwM_X12_fault) k h1))⟩, trivial⟩
theorem rq_count {N : Nat} (hN : 3000000000 ≤ N) {I0 : Nat → Int32} {M0 : Nat → Nat → Int32} {I1 : Nat → Int32} {L1 : Int64} {M1 : Nat → Nat → Int32} {x1 : Int32} {o2 : Nat → Int64} {r1} {r3} (e1 : fL_count N I0 M0 x1 o2 = some r1) (e3 : fX12_count N I1 L1 M1 x1 = some r3) (k0 : KX11 I0 M0) (k1 : KX12 I1 M1) (hr : RQ I0 M0 I1 M1) : RQ r1.2.1 r1.2.2.1 r3.2.1 r3.2.2.2 := by
  have f3 := fr_fX12_count e3
  have f1 := fr_fL_count e1
  exact ⟨⟨hr.1.1.cg (f1.1 0 (by decide)) (f3.1 3 (by decide)) (f1.2 0 (by decide)) (f3.2 8 (by decide)), hr.1.2.1.cg (f1.2 13 (by decide)) (f3.2 7 (by decide)), hr.1.2.2.cg (f1.1 9 (by decide)) (f1.1 10 (by decide)) (fun k h1 h2 => f1.2 k ((by decide : ∀ k, k < 7 → 1 ≤ k → ¬ k ∈ fwM_L_count) k h1 h2)) (f3.1 1 (by decide)) (f3.1 2 (by decide)) (fun k h1 => f3.2 k ((by decide : ∀ k, k < 7 → ¬ k ∈ fwM_X12_count) k h1))⟩, trivial⟩
theorem rq_place {N : Nat} (hN : 3000000000 ≤ N) {I0 : Nat → Int32} {M0 : Nat → Nat → Int32} {I1 : Nat → Int32} {L1 : Int64} {M1 : Nat → Nat → Int32} {x1 : Int32} {x2 : Int32} {x3 : Int32} {o4 : Nat → Int64} {r1} {r3} (e1 : fL_place N I0 M0 x1 x2 x3 o4 = some r1) (e3 : fX12_place N I1 L1 M1 x1 x2 x3 = some r3) (k0 : KX11 I0 M0) (k1 : KX12 I1 M1) (hr : RQ I0 M0 I1 M1) : RQ r1.2.1 r1.2.2.1 r3.2.1 r3.2.2.2 := by
  have f3 := fr_fX12_place e3
  have f1 := fr_fL_place e1
  exact ⟨⟨hr.1.1.cg (f1.1 0 (by decide)) (f3.1 3 (by decide)) (f1.2 0 (by decide)) (f3.2 8 (by decide)), hr.1.2.1.cg (f1.2 13 (by decide)) (f3.2 7 (by decide)), hr.1.2.2.cg (f1.1 9 (by decide)) (f1.1 10 (by decide)) (fun k h1 h2 => f1.2 k ((by decide : ∀ k, k < 7 → 1 ≤ k → ¬ k ∈ fwM_L_place) k h1 h2)) (f3.1 1 (by decide)) (f3.1 2 (by decide)) (fun k h1 => f3.2 k ((by decide : ∀ k, k < 7 → ¬ k ∈ fwM_X12_place) k h1))⟩, trivial⟩
theorem rq_entry {N : Nat} (hN : 3000000000 ≤ N) {I0 : Nat → Int32} {M0 : Nat → Nat → Int32} {I1 : Nat → Int32} {L1 : Int64} {M1 : Nat → Nat → Int32} {x1 : Int32} {x2 : Int32} {x3 : Int32} {o4 : Nat → Int64} {r1} {r3} (e1 : fL_entry N I0 M0 x1 x2 x3 o4 = some r1) (e3 : fX12_entry N I1 L1 M1 x1 x2 x3 = some r3) (k0 : KX11 I0 M0) (k1 : KX12 I1 M1) (hr : RQ I0 M0 I1 M1) : RQ r1.2.1 r1.2.2.1 r3.2.1 r3.2.2.2 := by
  have f3 := fr_fX12_entry e3
  have f1 := fr_fL_entry e1
  exact ⟨⟨hr.1.1.cg (f1.1 0 (by decide)) (f3.1 3 (by decide)) (f1.2 0 (by decide)) (f3.2 8 (by decide)), hr.1.2.1.cg (f1.2 13 (by decide)) (f3.2 7 (by decide)), hr.1.2.2.cg (f1.1 9 (by decide)) (f1.1 10 (by decide)) (fun k h1 h2 => f1.2 k ((by decide : ∀ k, k < 7 → 1 ≤ k → ¬ k ∈ fwM_L_entry) k h1 h2)) (f3.1 1 (by decide)) (f3.1 2 (by decide)) (fun k h1 => f3.2 k ((by decide : ∀ k, k < 7 → ¬ k ∈ fwM_X12_entry) k h1))⟩, trivial⟩
theorem rq_cost {N : Nat} (hN : 3000000000 ≤ N) {I0 : Nat → Int32} {M0 : Nat → Nat → Int32} {I1 : Nat → Int32} {L1 : Int64} {M1 : Nat → Nat → Int32} {x1 : Int32} {x2 : Int32} {x3 : Int32} {x4 : Int32} {o5 : Nat → Int64} {r1} {r3} (e1 : fL_cost N I0 M0 x1 x2 x3 x4 o5 = some r1) (e3 : fX12_cost N I1 L1 M1 x1 x2 x3 x4 = some r3) (k0 : KX11 I0 M0) (k1 : KX12 I1 M1) (hr : RQ I0 M0 I1 M1) : RQ r1.2.1 r1.2.2.1 r3.2.1 r3.2.2.2 := by
  have f3 := fr_fX12_cost e3
  have f1 := fr_fL_cost e1
  exact ⟨⟨hr.1.1.cg (f1.1 0 (by decide)) (f3.1 3 (by decide)) (f1.2 0 (by decide)) (f3.2 8 (by decide)), hr.1.2.1.cg (f1.2 13 (by decide)) (f3.2 7 (by decide)), hr.1.2.2.cg (f1.1 9 (by decide)) (f1.1 10 (by decide)) (fun k h1 h2 => f1.2 k ((by decide : ∀ k, k < 7 → 1 ≤ k → ¬ k ∈ fwM_L_cost) k h1 h2)) (f3.1 1 (by decide)) (f3.1 2 (by decide)) (fun k h1 => f3.2 k ((by decide : ∀ k, k < 7 → ¬ k ∈ fwM_X12_cost) k h1))⟩, trivial⟩
theorem rq_best {N : Nat} (hN : 3000000000 ≤ N) {I0 : Nat → Int32} {M0 : Nat → Nat → Int32} {I1 : Nat → Int32} {L1 : Int64} {M1 : Nat → Nat → Int32} {x1 : Int32} {x2 : Int32} {x3 : Int32} {x4 : Int32} {x5 : Int32} {o6 : Nat → Int64} {r1} {r3} (e1 : fL_best N I0 M0 x1 x2 x3 x4 x5 o6 = some r1) (e3 : fX12_best N I1 L1 M1 x1 x2 x3 x4 x5 = some r3) (k0 : KX11 I0 M0) (k1 : KX12 I1 M1) (hr : RQ I0 M0 I1 M1) : RQ r1.2.1 r1.2.2.1 r3.2.1 r3.2.2.2 := by
  have f3 := fr_fX12_best e3
  have f1 := fr_fL_best e1
  exact ⟨⟨hr.1.1.cg (f1.1 0 (by decide)) (f3.1 3 (by decide)) (f1.2 0 (by decide)) (f3.2 8 (by decide)), hr.1.2.1.cg (f1.2 13 (by decide)) (f3.2 7 (by decide)), hr.1.2.2.cg (f1.1 9 (by decide)) (f1.1 10 (by decide)) (fun k h1 h2 => f1.2 k ((by decide : ∀ k, k < 7 → 1 ≤ k → ¬ k ∈ fwM_L_best) k h1 h2)) (f3.1 1 (by decide)) (f3.1 2 (by decide)) (fun k h1 => f3.2 k ((by decide : ∀ k, k < 7 → ¬ k ∈ fwM_X12_best) k h1))⟩, trivial⟩
theorem rq_day {N : Nat} (hN : 3000000000 ≤ N) {I0 : Nat → Int32} {M0 : Nat → Nat → Int32} {I1 : Nat → Int32} {L1 : Int64} {M1 : Nat → Nat → Int32} {x1 : Int32} {o2 : Nat → Int64} {r1} {r3} (e1 : fL_day N I0 M0 x1 o2 = some r1) (e3 : fX12_day N I1 L1 M1 x1 = some r3) (k0 : KX11 I0 M0) (k1 : KX12 I1 M1) (hr : RQ I0 M0 I1 M1) : RQ r1.2.1 r1.2.2.1 r3.2.1 r3.2.2.2 := by
  have f3 := fr_fX12_day e3
  have f1 := fr_fL_day e1
  exact ⟨⟨hr.1.1.cg (f1.1 0 (by decide)) (f3.1 3 (by decide)) (f1.2 0 (by decide)) (f3.2 8 (by decide)), hr.1.2.1.cg (f1.2 13 (by decide)) (f3.2 7 (by decide)), hr.1.2.2.cg (f1.1 9 (by decide)) (f1.1 10 (by decide)) (fun k h1 h2 => f1.2 k ((by decide : ∀ k, k < 7 → 1 ≤ k → ¬ k ∈ fwM_L_day) k h1 h2)) (f3.1 1 (by decide)) (f3.1 2 (by decide)) (fun k h1 => f3.2 k ((by decide : ∀ k, k < 7 → ¬ k ∈ fwM_X12_day) k h1))⟩, trivial⟩
theorem rq_whose {N : Nat} (hN : 3000000000 ≤ N) {I0 : Nat → Int32} {M0 : Nat → Nat → Int32} {I1 : Nat → Int32} {L1 : Int64} {M1 : Nat → Nat → Int32} {x1 : Int32} {x2 : Int32} {x3 : Int32} {x4 : Int32} {x5 : Int32} {o6 : Nat → Int64} {r1} {r3} (e1 : fL_whose N I0 M0 x1 x2 x3 x4 x5 o6 = some r1) (e3 : fX12_whose N I1 L1 M1 x1 x2 x3 x4 x5 = some r3) (k0 : KX11 I0 M0) (k1 : KX12 I1 M1) (hr : RQ I0 M0 I1 M1) : RQ r1.2.1 r1.2.2.1 r3.2.1 r3.2.2.2 := by
  have f3 := fr_fX12_whose e3
  have f1 := fr_fL_whose e1
  exact ⟨⟨hr.1.1.cg (f1.1 0 (by decide)) (f3.1 3 (by decide)) (f1.2 0 (by decide)) (f3.2 8 (by decide)), hr.1.2.1.cg (f1.2 13 (by decide)) (f3.2 7 (by decide)), hr.1.2.2.cg (f1.1 9 (by decide)) (f1.1 10 (by decide)) (fun k h1 h2 => f1.2 k ((by decide : ∀ k, k < 7 → 1 ≤ k → ¬ k ∈ fwM_L_whose) k h1 h2)) (f3.1 1 (by decide)) (f3.1 2 (by decide)) (fun k h1 => f3.2 k ((by decide : ∀ k, k < 7 → ¬ k ∈ fwM_X12_whose) k h1))⟩, trivial⟩
theorem rq_mixed {N : Nat} (hN : 3000000000 ≤ N) {I0 : Nat → Int32} {M0 : Nat → Nat → Int32} {I1 : Nat → Int32} {L1 : Int64} {M1 : Nat → Nat → Int32} {x1 : Int32} {x2 : Int32} {x3 : Int32} {x4 : Int32} {o5 : Nat → Int64} {r1} {r3} (e1 : fL_mixed N I0 M0 x1 x2 x3 x4 o5 = some r1) (e3 : fX12_mixed N I1 L1 M1 x1 x2 x3 x4 = some r3) (k0 : KX11 I0 M0) (k1 : KX12 I1 M1) (hr : RQ I0 M0 I1 M1) : RQ r1.2.1 r1.2.2.1 r3.2.1 r3.2.2.2 := by
  have f3 := fr_fX12_mixed e3
  have f1 := fr_fL_mixed e1
  exact ⟨⟨hr.1.1.cg (f1.1 0 (by decide)) (f3.1 3 (by decide)) (f1.2 0 (by decide)) (f3.2 8 (by decide)), hr.1.2.1.cg (f1.2 13 (by decide)) (f3.2 7 (by decide)), hr.1.2.2.cg (f1.1 9 (by decide)) (f1.1 10 (by decide)) (fun k h1 h2 => f1.2 k ((by decide : ∀ k, k < 7 → 1 ≤ k → ¬ k ∈ fwM_L_mixed) k h1 h2)) (f3.1 1 (by decide)) (f3.1 2 (by decide)) (fun k h1 => f3.2 k ((by decide : ∀ k, k < 7 → ¬ k ∈ fwM_X12_mixed) k h1))⟩, trivial⟩
theorem rq_climb {N : Nat} (hN : 3000000000 ≤ N) {I0 : Nat → Int32} {M0 : Nat → Nat → Int32} {I1 : Nat → Int32} {L1 : Int64} {M1 : Nat → Nat → Int32} {x1 : Int32} {x2 : Int32} {o3 : Nat → Int64} {r1} {r3} (e1 : fL_climb N I0 M0 x1 x2 o3 = some r1) (e3 : fX12_climb N I1 L1 M1 x1 x2 = some r3) (k0 : KX11 I0 M0) (k1 : KX12 I1 M1) (hr : RQ I0 M0 I1 M1) : RQ r1.2.1 r1.2.2.1 r3.2.1 r3.2.2.2 := by
  have f3 := fr_fX12_climb e3
  have f1 := fr_fL_climb e1
  exact ⟨⟨hr.1.1.cg (f1.1 0 (by decide)) (f3.1 3 (by decide)) (f1.2 0 (by decide)) (f3.2 8 (by decide)), hr.1.2.1.cg (f1.2 13 (by decide)) (f3.2 7 (by decide)), hr.1.2.2.cg (f1.1 9 (by decide)) (f1.1 10 (by decide)) (fun k h1 h2 => f1.2 k ((by decide : ∀ k, k < 7 → 1 ≤ k → ¬ k ∈ fwM_L_climb) k h1 h2)) (f3.1 1 (by decide)) (f3.1 2 (by decide)) (fun k h1 => f3.2 k ((by decide : ∀ k, k < 7 → ¬ k ∈ fwM_X12_climb) k h1))⟩, trivial⟩
theorem rq_rise {N : Nat} (hN : 3000000000 ≤ N) {I0 : Nat → Int32} {M0 : Nat → Nat → Int32} {I1 : Nat → Int32} {L1 : Int64} {M1 : Nat → Nat → Int32} {x1 : Int32} {x2 : Int32} {x3 : Int32} {o4 : Nat → Int64} {r1} {r3} (e1 : fL_rise N I0 M0 x1 x2 x3 o4 = some r1) (e3 : fX12_rise N I1 L1 M1 x1 x2 x3 = some r3) (k0 : KX11 I0 M0) (k1 : KX12 I1 M1) (hr : RQ I0 M0 I1 M1) : RQ r1.2.1 r1.2.2.1 r3.2.1 r3.2.2.2 := by
  have f3 := fr_fX12_rise e3
  have f1 := fr_fL_rise e1
  exact ⟨⟨hr.1.1.cg (f1.1 0 (by decide)) (f3.1 3 (by decide)) (f1.2 0 (by decide)) (f3.2 8 (by decide)), hr.1.2.1.cg (f1.2 13 (by decide)) (f3.2 7 (by decide)), hr.1.2.2.cg (f1.1 9 (by decide)) (f1.1 10 (by decide)) (fun k h1 h2 => f1.2 k ((by decide : ∀ k, k < 7 → 1 ≤ k → ¬ k ∈ fwM_L_rise) k h1 h2)) (f3.1 1 (by decide)) (f3.1 2 (by decide)) (fun k h1 => f3.2 k ((by decide : ∀ k, k < 7 → ¬ k ∈ fwM_X12_rise) k h1))⟩, trivial⟩
theorem rq_middle {N : Nat} (hN : 3000000000 ≤ N) {I0 : Nat → Int32} {M0 : Nat → Nat → Int32} {I1 : Nat → Int32} {L1 : Int64} {M1 : Nat → Nat → Int32} {x1 : Int32} {x2 : Int32} {o3 : Nat → Int64} {r1} {r3} (e1 : fL_middle N I0 M0 x1 x2 o3 = some r1) (e3 : fX12_middle N I1 L1 M1 x1 x2 = some r3) (k0 : KX11 I0 M0) (k1 : KX12 I1 M1) (hr : RQ I0 M0 I1 M1) : RQ r1.2.1 r1.2.2.1 r3.2.1 r3.2.2.2 := by
  have f3 := fr_fX12_middle e3
  have f1 := fr_fL_middle e1
  exact ⟨⟨hr.1.1.cg (f1.1 0 (by decide)) (f3.1 3 (by decide)) (f1.2 0 (by decide)) (f3.2 8 (by decide)), hr.1.2.1.cg (f1.2 13 (by decide)) (f3.2 7 (by decide)), hr.1.2.2.cg (f1.1 9 (by decide)) (f1.1 10 (by decide)) (fun k h1 h2 => f1.2 k ((by decide : ∀ k, k < 7 → 1 ≤ k → ¬ k ∈ fwM_L_middle) k h1 h2)) (f3.1 1 (by decide)) (f3.1 2 (by decide)) (fun k h1 => f3.2 k ((by decide : ∀ k, k < 7 → ¬ k ∈ fwM_X12_middle) k h1))⟩, trivial⟩
theorem rq_hour {N : Nat} (hN : 3000000000 ≤ N) {I0 : Nat → Int32} {M0 : Nat → Nat → Int32} {I1 : Nat → Int32} {L1 : Int64} {M1 : Nat → Nat → Int32} {x1 : Int32} {x2 : Int32} {x3 : Int32} {o4 : Nat → Int64} {r1} {r3} (e1 : fL_hour N I0 M0 x1 x2 x3 o4 = some r1) (e3 : fX12_hour N I1 L1 M1 x1 x2 x3 = some r3) (k0 : KX11 I0 M0) (k1 : KX12 I1 M1) (hr : RQ I0 M0 I1 M1) : RQ r1.2.1 r1.2.2.1 r3.2.1 r3.2.2.2 := by
  have f3 := fr_fX12_hour e3
  have f1 := fr_fL_hour e1
  exact ⟨⟨hr.1.1.cg (f1.1 0 (by decide)) (f3.1 3 (by decide)) (f1.2 0 (by decide)) (f3.2 8 (by decide)), hr.1.2.1.cg (f1.2 13 (by decide)) (f3.2 7 (by decide)), hr.1.2.2.cg (f1.1 9 (by decide)) (f1.1 10 (by decide)) (fun k h1 h2 => f1.2 k ((by decide : ∀ k, k < 7 → 1 ≤ k → ¬ k ∈ fwM_L_hour) k h1 h2)) (f3.1 1 (by decide)) (f3.1 2 (by decide)) (fun k h1 => f3.2 k ((by decide : ∀ k, k < 7 → ¬ k ∈ fwM_X12_hour) k h1))⟩, trivial⟩
theorem rq_houseOf {N : Nat} (hN : 3000000000 ≤ N) {I0 : Nat → Int32} {M0 : Nat → Nat → Int32} {I1 : Nat → Int32} {L1 : Int64} {M1 : Nat → Nat → Int32} {x1 : Int32} {x2 : Int32} {x3 : Int32} {x4 : Int32} {o5 : Nat → Int64} {r1} {r3} (e1 : fL_houseOf N I0 M0 x1 x2 x3 x4 o5 = some r1) (e3 : fX12_houseOf N I1 L1 M1 x1 x2 x3 x4 = some r3) (k0 : KX11 I0 M0) (k1 : KX12 I1 M1) (hr : RQ I0 M0 I1 M1) : RQ r1.2.1 r1.2.2.1 r3.2.1 r3.2.2.2 := by
  have f3 := fr_fX12_houseOf e3
  have f1 := fr_fL_houseOf e1
  exact ⟨⟨hr.1.1.cg (f1.1 0 (by decide)) (f3.1 3 (by decide)) (f1.2 0 (by decide)) (f3.2 8 (by decide)), hr.1.2.1.cg (f1.2 13 (by decide)) (f3.2 7 (by decide)), hr.1.2.2.cg (f1.1 9 (by decide)) (f1.1 10 (by decide)) (fun k h1 h2 => f1.2 k ((by decide : ∀ k, k < 7 → 1 ≤ k → ¬ k ∈ fwM_L_houseOf) k h1 h2)) (f3.1 1 (by decide)) (f3.1 2 (by decide)) (fun k h1 => f3.2 k ((by decide : ∀ k, k < 7 → ¬ k ∈ fwM_X12_houseOf) k h1))⟩, trivial⟩
theorem rq_agree {N : Nat} (hN : 3000000000 ≤ N) {I0 : Nat → Int32} {M0 : Nat → Nat → Int32} {I1 : Nat → Int32} {L1 : Int64} {M1 : Nat → Nat → Int32} {x1 : Int32} {x2 : Int32} {x3 : Int32} {x4 : Int32} {o5 : Nat → Int64} {r1} {r3} (e1 : fL_agree N I0 M0 x1 x2 x3 x4 o5 = some r1) (e3 : fX12_agree N I1 L1 M1 x1 x2 x3 x4 = some r3) (k0 : KX11 I0 M0) (k1 : KX12 I1 M1) (hr : RQ I0 M0 I1 M1) : RQ r1.2.1 r1.2.2.1 r3.2.1 r3.2.2.2 := by
  have f3 := fr_fX12_agree e3
  have f1 := fr_fL_agree e1
  exact ⟨⟨hr.1.1.cg (f1.1 0 (by decide)) (f3.1 3 (by decide)) (f1.2 0 (by decide)) (f3.2 8 (by decide)), hr.1.2.1.cg (f1.2 13 (by decide)) (f3.2 7 (by decide)), hr.1.2.2.cg (f1.1 9 (by decide)) (f1.1 10 (by decide)) (fun k h1 h2 => f1.2 k ((by decide : ∀ k, k < 7 → 1 ≤ k → ¬ k ∈ fwM_L_agree) k h1 h2)) (f3.1 1 (by decide)) (f3.1 2 (by decide)) (fun k h1 => f3.2 k ((by decide : ∀ k, k < 7 → ¬ k ∈ fwM_X12_agree) k h1))⟩, trivial⟩
theorem rq_lot {N : Nat} (hN : 3000000000 ≤ N) {I0 : Nat → Int32} {M0 : Nat → Nat → Int32} {I1 : Nat → Int32} {L1 : Int64} {M1 : Nat → Nat → Int32} {x1 : Int32} {x2 : Int32} {x3 : Int32} {o4 : Nat → Int64} {r1} {r3} (e1 : fL_lot N I0 M0 x1 x2 x3 o4 = some r1) (e3 : fX12_lot N I1 L1 M1 x1 x2 x3 = some r3) (k0 : KX11 I0 M0) (k1 : KX12 I1 M1) (hr : RQ I0 M0 I1 M1) : RQ r1.2.1 r1.2.2.1 r3.2.1 r3.2.2.2 := by
  have f3 := fr_fX12_lot e3
  have f1 := fr_fL_lot e1
  exact ⟨⟨hr.1.1.cg (f1.1 0 (by decide)) (f3.1 3 (by decide)) (f1.2 0 (by decide)) (f3.2 8 (by decide)), hr.1.2.1.cg (f1.2 13 (by decide)) (f3.2 7 (by decide)), hr.1.2.2.cg (f1.1 9 (by decide)) (f1.1 10 (by decide)) (fun k h1 h2 => f1.2 k ((by decide : ∀ k, k < 7 → 1 ≤ k → ¬ k ∈ fwM_L_lot) k h1 h2)) (f3.1 1 (by decide)) (f3.1 2 (by decide)) (fun k h1 => f3.2 k ((by decide : ∀ k, k < 7 → ¬ k ∈ fwM_X12_lot) k h1))⟩, trivial⟩
theorem rq_price {N : Nat} (hN : 3000000000 ≤ N) {I0 : Nat → Int32} {M0 : Nat → Nat → Int32} {I1 : Nat → Int32} {L1 : Int64} {M1 : Nat → Nat → Int32} {x1 : Int32} {x2 : Int32} {o3 : Nat → Int64} {r1} {r3} (e1 : fL_price N I0 M0 x1 x2 o3 = some r1) (e3 : fX12_price N I1 L1 M1 x1 x2 = some r3) (k0 : KX11 I0 M0) (k1 : KX12 I1 M1) (hr : RQ I0 M0 I1 M1) : RQ r1.2.1 r1.2.2.1 r3.2.1 r3.2.2.2 := by
  have f3 := fr_fX12_price e3
  have f1 := fr_fL_price e1
  exact ⟨⟨hr.1.1.cg (f1.1 0 (by decide)) (f3.1 3 (by decide)) (f1.2 0 (by decide)) (f3.2 8 (by decide)), hr.1.2.1.cg (f1.2 13 (by decide)) (f3.2 7 (by decide)), hr.1.2.2.cg (f1.1 9 (by decide)) (f1.1 10 (by decide)) (fun k h1 h2 => f1.2 k ((by decide : ∀ k, k < 7 → 1 ≤ k → ¬ k ∈ fwM_L_price) k h1 h2)) (f3.1 1 (by decide)) (f3.1 2 (by decide)) (fun k h1 => f3.2 k ((by decide : ∀ k, k < 7 → ¬ k ∈ fwM_X12_price) k h1))⟩, trivial⟩
theorem rq_seek {N : Nat} (hN : 3000000000 ≤ N) {I0 : Nat → Int32} {M0 : Nat → Nat → Int32} {I1 : Nat → Int32} {L1 : Int64} {M1 : Nat → Nat → Int32} {x1 : Int32} {x2 : Int32} {x3 : Int32} {x4 : Int32} {r1} {r3} (e1 : fL_seek N I0 M0 x1 x2 x3 x4 = some r1) (e3 : fX12_seek N I1 L1 M1 x1 x2 x3 x4 = some r3) (k0 : KX11 I0 M0) (k1 : KX12 I1 M1) (hr : RQ I0 M0 I1 M1) : RQ r1.2.1 r1.2.2 r3.1 r3.2.2 := by
  have f3 := fr_fX12_seek e3
  have f1 := fr_fL_seek e1
  exact ⟨⟨hr.1.1.cg (f1.1 0 (by decide)) (f3.1 3 (by decide)) (f1.2 0 (by decide)) (f3.2 8 (by decide)), hr.1.2.1.cg (f1.2 13 (by decide)) (f3.2 7 (by decide)), hr.1.2.2.cg (f1.1 9 (by decide)) (f1.1 10 (by decide)) (fun k h1 h2 => f1.2 k ((by decide : ∀ k, k < 7 → 1 ≤ k → ¬ k ∈ fwM_L_seek) k h1 h2)) (f3.1 1 (by decide)) (f3.1 2 (by decide)) (fun k h1 => f3.2 k ((by decide : ∀ k, k < 7 → ¬ k ∈ fwM_X12_seek) k h1))⟩, trivial⟩
theorem rq_on {N : Nat} (hN : 3000000000 ≤ N) {I0 : Nat → Int32} {M0 : Nat → Nat → Int32} {I1 : Nat → Int32} {L1 : Int64} {M1 : Nat → Nat → Int32} {x1 : Int32} {o2 : Nat → Int64} {r1} {r3} (e1 : fL_on N I0 M0 x1 o2 = some r1) (e3 : fX12_on N I1 L1 M1 x1 = some r3) (k0 : KX11 I0 M0) (k1 : KX12 I1 M1) (hr : RQ I0 M0 I1 M1) : RQ r1.2.1 r1.2.2.1 r3.2.1 r3.2.2.2 := by
  have f3 := fr_fX12_on e3
  have f1 := fr_fL_on e1
  exact ⟨⟨hr.1.1.cg (f1.1 0 (by decide)) (f3.1 3 (by decide)) (f1.2 0 (by decide)) (f3.2 8 (by decide)), hr.1.2.1.cg (f1.2 13 (by decide)) (f3.2 7 (by decide)), hr.1.2.2.cg (f1.1 9 (by decide)) (f1.1 10 (by decide)) (fun k h1 h2 => f1.2 k ((by decide : ∀ k, k < 7 → 1 ≤ k → ¬ k ∈ fwM_L_on) k h1 h2)) (f3.1 1 (by decide)) (f3.1 2 (by decide)) (fun k h1 => f3.2 k ((by decide : ∀ k, k < 7 → ¬ k ∈ fwM_X12_on) k h1))⟩, trivial⟩
theorem rq_held {N : Nat} (hN : 3000000000 ≤ N) {I0 : Nat → Int32} {M0 : Nat → Nat → Int32} {I1 : Nat → Int32} {L1 : Int64} {M1 : Nat → Nat → Int32} {x1 : Int32} {o2 : Nat → Int64} {r1} {r3} (e1 : fL_held N I0 M0 x1 o2 = some r1) (e3 : fX12_held N I1 L1 M1 x1 = some r3) (k0 : KX11 I0 M0) (k1 : KX12 I1 M1) (hr : RQ I0 M0 I1 M1) : RQ r1.2.1 r1.2.2.1 r3.2.1 r3.2.2.2 := by
  have f3 := fr_fX12_held e3
  have f1 := fr_fL_held e1
  exact ⟨⟨hr.1.1.cg (f1.1 0 (by decide)) (f3.1 3 (by decide)) (f1.2 0 (by decide)) (f3.2 8 (by decide)), hr.1.2.1.cg (f1.2 13 (by decide)) (f3.2 7 (by decide)), hr.1.2.2.cg (f1.1 9 (by decide)) (f1.1 10 (by decide)) (fun k h1 h2 => f1.2 k ((by decide : ∀ k, k < 7 → 1 ≤ k → ¬ k ∈ fwM_L_held) k h1 h2)) (f3.1 1 (by decide)) (f3.1 2 (by decide)) (fun k h1 => f3.2 k ((by decide : ∀ k, k < 7 → ¬ k ∈ fwM_X12_held) k h1))⟩, trivial⟩
theorem rq_image {N : Nat} (hN : 3000000000 ≤ N) {I0 : Nat → Int32} {M0 : Nat → Nat → Int32} {I1 : Nat → Int32} {L1 : Int64} {M1 : Nat → Nat → Int32} {r1} {r2} (e1 : fX11_image N I0 M0  = some r1) (e3 : fX12_image N I1 L1 M1  = some r2) (k0 : KX11 I0 M0) (k1 : KX12 I1 M1) (hr : RQ I0 M0 I1 M1) : RQ r1.2.1 r1.2.2 r2.2.1 r2.2.2.2 := by
  have f3 := fr_fX12_image e3
  have f1 := fr_fX11_image e1
  exact ⟨⟨hr.1.1.cg (f1.1 0 (by decide)) (f3.1 3 (by decide)) (f1.2 0 (by decide)) (f3.2 8 (by decide)), hr.1.2.1.cg (f1.2 13 (by decide)) (f3.2 7 (by decide)), hr.1.2.2.cg (f1.1 9 (by decide)) (f1.1 10 (by decide)) (fun k h1 h2 => f1.2 k ((by decide : ∀ k, k < 7 → 1 ≤ k → ¬ k ∈ fwM_X11_image) k h1 h2)) (f3.1 1 (by decide)) (f3.1 2 (by decide)) (fun k h1 => f3.2 k ((by decide : ∀ k, k < 7 → ¬ k ∈ fwM_X12_image) k h1))⟩, trivial⟩
theorem rq_restore {N : Nat} (hN : 3000000000 ≤ N) {I0 : Nat → Int32} {M0 : Nat → Nat → Int32} {I1 : Nat → Int32} {L1 : Int64} {M1 : Nat → Nat → Int32} {r1} {r2} (e1 : fX11_restore N I0 M0  = some r1) (e3 : fX12_restore N I1 L1 M1  = some r2) (k0 : KX11 I0 M0) (k1 : KX12 I1 M1) (hr : RQ I0 M0 I1 M1) : RQ r1.2.1 r1.2.2 r2.2.1 r2.2.2.2 := by
  have f3 := fr_fX12_restore e3
  have f1 := fr_fX11_restore e1
  exact ⟨⟨hr.1.1.cg (f1.1 0 (by decide)) (f3.1 3 (by decide)) (f1.2 0 (by decide)) (f3.2 8 (by decide)), hr.1.2.1.cg (f1.2 13 (by decide)) (f3.2 7 (by decide)), hr.1.2.2.cg (f1.1 9 (by decide)) (f1.1 10 (by decide)) (fun k h1 h2 => f1.2 k ((by decide : ∀ k, k < 7 → 1 ≤ k → ¬ k ∈ fwM_X11_restore) k h1 h2)) (f3.1 1 (by decide)) (f3.1 2 (by decide)) (fun k h1 => f3.2 k ((by decide : ∀ k, k < 7 → ¬ k ∈ fwM_X12_restore) k h1))⟩, trivial⟩
theorem rq_misread {N : Nat} (hN : 3000000000 ≤ N) {I0 : Nat → Int32} {M0 : Nat → Nat → Int32} {I1 : Nat → Int32} {L1 : Int64} {M1 : Nat → Nat → Int32} {x1 : Int32} {x2 : Int32} {x3 : Int32} {x4 : Int32} {x5 : Int32} {o6 : Nat → Int64} {r1} {r3} (e1 : fL_misread N I0 M0 x1 x2 x3 x4 x5 o6 = some r1) (e3 : fX12_misread N I1 L1 M1 x1 x2 x3 x4 x5 = some r3) (k0 : KX11 I0 M0) (k1 : KX12 I1 M1) (hr : RQ I0 M0 I1 M1) : RQ r1.2.1 r1.2.2.1 r3.2.1 r3.2.2.2 := by
  have f3 := fr_fX12_misread e3
  have f1 := fr_fL_misread e1
  exact ⟨⟨hr.1.1.cg (f1.1 0 (by decide)) (f3.1 3 (by decide)) (f1.2 0 (by decide)) (f3.2 8 (by decide)), hr.1.2.1.cg (f1.2 13 (by decide)) (f3.2 7 (by decide)), hr.1.2.2.cg (f1.1 9 (by decide)) (f1.1 10 (by decide)) (fun k h1 h2 => f1.2 k ((by decide : ∀ k, k < 7 → 1 ≤ k → ¬ k ∈ fwM_L_misread) k h1 h2)) (f3.1 1 (by decide)) (f3.1 2 (by decide)) (fun k h1 => f3.2 k ((by decide : ∀ k, k < 7 → ¬ k ∈ fwM_X12_misread) k h1))⟩, trivial⟩
theorem rq_errors {N : Nat} (hN : 3000000000 ≤ N) {I0 : Nat → Int32} {M0 : Nat → Nat → Int32} {I1 : Nat → Int32} {L1 : Int64} {M1 : Nat → Nat → Int32} {x1 : Int32} {x2 : Int32} {x3 : Int32} {x4 : Int32} {o5 : Nat → Int64} {r1} {r3} (e1 : fL_errors N I0 M0 x1 x2 x3 x4 o5 = some r1) (e3 : fX12_errors N I1 L1 M1 x1 x2 x3 x4 = some r3) (k0 : KX11 I0 M0) (k1 : KX12 I1 M1) (hr : RQ I0 M0 I1 M1) : RQ r1.2.1 r1.2.2.1 r3.2.1 r3.2.2.2 := by
  have f3 := fr_fX12_errors e3
  have f1 := fr_fL_errors e1
  exact ⟨⟨hr.1.1.cg (f1.1 0 (by decide)) (f3.1 3 (by decide)) (f1.2 0 (by decide)) (f3.2 8 (by decide)), hr.1.2.1.cg (f1.2 13 (by decide)) (f3.2 7 (by decide)), hr.1.2.2.cg (f1.1 9 (by decide)) (f1.1 10 (by decide)) (fun k h1 h2 => f1.2 k ((by decide : ∀ k, k < 7 → 1 ≤ k → ¬ k ∈ fwM_L_errors) k h1 h2)) (f3.1 1 (by decide)) (f3.1 2 (by decide)) (fun k h1 => f3.2 k ((by decide : ∀ k, k < 7 → ¬ k ∈ fwM_X12_errors) k h1))⟩, trivial⟩
theorem rq_possible {N : Nat} (hN : 3000000000 ≤ N) {I0 : Nat → Int32} {M0 : Nat → Nat → Int32} {I1 : Nat → Int32} {L1 : Int64} {M1 : Nat → Nat → Int32} {x1 : Int32} {x2 : Int32} {x3 : Int32} {o4 : Nat → Int64} {r1} {r3} (e1 : fL_possible N I0 M0 x1 x2 x3 o4 = some r1) (e3 : fX12_possible N I1 L1 M1 x1 x2 x3 = some r3) (k0 : KX11 I0 M0) (k1 : KX12 I1 M1) (hr : RQ I0 M0 I1 M1) : RQ r1.2.1 r1.2.2.1 r3.2.1 r3.2.2.2 := by
  have f3 := fr_fX12_possible e3
  have f1 := fr_fL_possible e1
  exact ⟨⟨hr.1.1.cg (f1.1 0 (by decide)) (f3.1 3 (by decide)) (f1.2 0 (by decide)) (f3.2 8 (by decide)), hr.1.2.1.cg (f1.2 13 (by decide)) (f3.2 7 (by decide)), hr.1.2.2.cg (f1.1 9 (by decide)) (f1.1 10 (by decide)) (fun k h1 h2 => f1.2 k ((by decide : ∀ k, k < 7 → 1 ≤ k → ¬ k ∈ fwM_L_possible) k h1 h2)) (f3.1 1 (by decide)) (f3.1 2 (by decide)) (fun k h1 => f3.2 k ((by decide : ∀ k, k < 7 → ¬ k ∈ fwM_X12_possible) k h1))⟩, trivial⟩
theorem rq_slips {N : Nat} (hN : 3000000000 ≤ N) {I0 : Nat → Int32} {M0 : Nat → Nat → Int32} {I1 : Nat → Int32} {L1 : Int64} {M1 : Nat → Nat → Int32} {x1 : Int32} {x2 : Int32} {o3 : Nat → Int64} {r1} {r3} (e1 : fL_slips N I0 M0 x1 x2 o3 = some r1) (e3 : fX12_slips N I1 L1 M1 x1 x2 = some r3) (k0 : KX11 I0 M0) (k1 : KX12 I1 M1) (hr : RQ I0 M0 I1 M1) : RQ r1.2.1 r1.2.2.1 r3.2.1 r3.2.2.2 := by
  have f3 := fr_fX12_slips e3
  have f1 := fr_fL_slips e1
  exact ⟨⟨hr.1.1.cg (f1.1 0 (by decide)) (f3.1 3 (by decide)) (f1.2 0 (by decide)) (f3.2 8 (by decide)), hr.1.2.1.cg (f1.2 13 (by decide)) (f3.2 7 (by decide)), hr.1.2.2.cg (f1.1 9 (by decide)) (f1.1 10 (by decide)) (fun k h1 h2 => f1.2 k ((by decide : ∀ k, k < 7 → 1 ≤ k → ¬ k ∈ fwM_L_slips) k h1 h2)) (f3.1 1 (by decide)) (f3.1 2 (by decide)) (fun k h1 => f3.2 k ((by decide : ∀ k, k < 7 → ¬ k ∈ fwM_X12_slips) k h1))⟩, trivial⟩
theorem rq_handed {N : Nat} (hN : 3000000000 ≤ N) {I0 : Nat → Int32} {M0 : Nat → Nat → Int32} {I1 : Nat → Int32} {L1 : Int64} {M1 : Nat → Nat → Int32} {x1 : Int32} {x2 : Int32} {x3 : Int32} {o4 : Nat → Int64} {r1} {r3} (e1 : fL_handed N I0 M0 x1 x2 x3 o4 = some r1) (e3 : fX12_handed N I1 L1 M1 x1 x2 x3 = some r3) (k0 : KX11 I0 M0) (k1 : KX12 I1 M1) (hr : RQ I0 M0 I1 M1) : RQ r1.2.1 r1.2.2.1 r3.2.1 r3.2.2.2 := by
  have f3 := fr_fX12_handed e3
  have f1 := fr_fL_handed e1
  exact ⟨⟨hr.1.1.cg (f1.1 0 (by decide)) (f3.1 3 (by decide)) (f1.2 0 (by decide)) (f3.2 8 (by decide)), hr.1.2.1.cg (f1.2 13 (by decide)) (f3.2 7 (by decide)), hr.1.2.2.cg (f1.1 9 (by decide)) (f1.1 10 (by decide)) (fun k h1 h2 => f1.2 k ((by decide : ∀ k, k < 7 → 1 ≤ k → ¬ k ∈ fwM_L_handed) k h1 h2)) (f3.1 1 (by decide)) (f3.1 2 (by decide)) (fun k h1 => f3.2 k ((by decide : ∀ k, k < 7 → ¬ k ∈ fwM_X12_handed) k h1))⟩, trivial⟩
theorem rq_leaf {N : Nat} (hN : 3000000000 ≤ N) {I0 : Nat → Int32} {M0 : Nat → Nat → Int32} {I1 : Nat → Int32} {L1 : Int64} {M1 : Nat → Nat → Int32} {x1 : Int32} {x2 : Int32} {o3 : Nat → Int64} {r1} {r3} (e1 : fL_leaf N I0 M0 x1 x2 o3 = some r1) (e3 : fX12_leaf N I1 L1 M1 x1 x2 = some r3) (k0 : KX11 I0 M0) (k1 : KX12 I1 M1) (hr : RQ I0 M0 I1 M1) : RQ r1.2.1 r1.2.2.1 r3.2.1 r3.2.2.2 := by
  have f3 := fr_fX12_leaf e3
  have f1 := fr_fL_leaf e1
  exact ⟨⟨hr.1.1.cg (f1.1 0 (by decide)) (f3.1 3 (by decide)) (f1.2 0 (by decide)) (f3.2 8 (by decide)), hr.1.2.1.cg (f1.2 13 (by decide)) (f3.2 7 (by decide)), hr.1.2.2.cg (f1.1 9 (by decide)) (f1.1 10 (by decide)) (fun k h1 h2 => f1.2 k ((by decide : ∀ k, k < 7 → 1 ≤ k → ¬ k ∈ fwM_L_leaf) k h1 h2)) (f3.1 1 (by decide)) (f3.1 2 (by decide)) (fun k h1 => f3.2 k ((by decide : ∀ k, k < 7 → ¬ k ∈ fwM_X12_leaf) k h1))⟩, trivial⟩
theorem rq_order {N : Nat} (hN : 3000000000 ≤ N) {I0 : Nat → Int32} {M0 : Nat → Nat → Int32} {I1 : Nat → Int32} {L1 : Int64} {M1 : Nat → Nat → Int32} {x1 : Int32} {x2 : Int32} {x3 : Int32} {o4 : Nat → Int64} {r1} {r3} (e1 : fL_order N I0 M0 x1 x2 x3 o4 = some r1) (e3 : fX12_order N I1 L1 M1 x1 x2 x3 = some r3) (k0 : KX11 I0 M0) (k1 : KX12 I1 M1) (hr : RQ I0 M0 I1 M1) : RQ r1.2.1 r1.2.2.1 r3.2.1 r3.2.2.2 := by
  have f3 := fr_fX12_order e3
  have f1 := fr_fL_order e1
  exact ⟨⟨hr.1.1.cg (f1.1 0 (by decide)) (f3.1 3 (by decide)) (f1.2 0 (by decide)) (f3.2 8 (by decide)), hr.1.2.1.cg (f1.2 13 (by decide)) (f3.2 7 (by decide)), hr.1.2.2.cg (f1.1 9 (by decide)) (f1.1 10 (by decide)) (fun k h1 h2 => f1.2 k ((by decide : ∀ k, k < 7 → 1 ≤ k → ¬ k ∈ fwM_L_order) k h1 h2)) (f3.1 1 (by decide)) (f3.1 2 (by decide)) (fun k h1 => f3.2 k ((by decide : ∀ k, k < 7 → ¬ k ∈ fwM_X12_order) k h1))⟩, trivial⟩
theorem rq_same {N : Nat} (hN : 3000000000 ≤ N) {I0 : Nat → Int32} {M0 : Nat → Nat → Int32} {I1 : Nat → Int32} {L1 : Int64} {M1 : Nat → Nat → Int32} {x1 : Int32} {x2 : Int32} {x3 : Int32} {o4 : Nat → Int64} {r1} {r3} (e1 : fL_same N I0 M0 x1 x2 x3 o4 = some r1) (e3 : fX12_same N I1 L1 M1 x1 x2 x3 = some r3) (k0 : KX11 I0 M0) (k1 : KX12 I1 M1) (hr : RQ I0 M0 I1 M1) : RQ r1.2.1 r1.2.2.1 r3.2.1 r3.2.2.2 := by
  have f3 := fr_fX12_same e3
  have f1 := fr_fL_same e1
  exact ⟨⟨hr.1.1.cg (f1.1 0 (by decide)) (f3.1 3 (by decide)) (f1.2 0 (by decide)) (f3.2 8 (by decide)), hr.1.2.1.cg (f1.2 13 (by decide)) (f3.2 7 (by decide)), hr.1.2.2.cg (f1.1 9 (by decide)) (f1.1 10 (by decide)) (fun k h1 h2 => f1.2 k ((by decide : ∀ k, k < 7 → 1 ≤ k → ¬ k ∈ fwM_L_same) k h1 h2)) (f3.1 1 (by decide)) (f3.1 2 (by decide)) (fun k h1 => f3.2 k ((by decide : ∀ k, k < 7 → ¬ k ∈ fwM_X12_same) k h1))⟩, trivial⟩
theorem rq_births {N : Nat} (hN : 3000000000 ≤ N) {I0 : Nat → Int32} {M0 : Nat → Nat → Int32} {I1 : Nat → Int32} {L1 : Int64} {M1 : Nat → Nat → Int32} {x1 : Int32} {x2 : Int32} {o3 : Nat → Int64} {r1} {r3} (e1 : fL_births N I0 M0 x1 x2 o3 = some r1) (e3 : fX12_births N I1 L1 M1 x1 x2 = some r3) (k0 : KX11 I0 M0) (k1 : KX12 I1 M1) (hr : RQ I0 M0 I1 M1) : RQ r1.2.1 r1.2.2.1 r3.2.1 r3.2.2.2 := by
  have f3 := fr_fX12_births e3
  have f1 := fr_fL_births e1
  exact ⟨⟨hr.1.1.cg (f1.1 0 (by decide)) (f3.1 3 (by decide)) (f1.2 0 (by decide)) (f3.2 8 (by decide)), hr.1.2.1.cg (f1.2 13 (by decide)) (f3.2 7 (by decide)), hr.1.2.2.cg (f1.1 9 (by decide)) (f1.1 10 (by decide)) (fun k h1 h2 => f1.2 k ((by decide : ∀ k, k < 7 → 1 ≤ k → ¬ k ∈ fwM_L_births) k h1 h2)) (f3.1 1 (by decide)) (f3.1 2 (by decide)) (fun k h1 => f3.2 k ((by decide : ∀ k, k < 7 → ¬ k ∈ fwM_X12_births) k h1))⟩, trivial⟩
theorem rq_tree {N : Nat} (hN : 3000000000 ≤ N) {I0 : Nat → Int32} {M0 : Nat → Nat → Int32} {I1 : Nat → Int32} {L1 : Int64} {M1 : Nat → Nat → Int32} {r1} {r2} (e1 : fX11_tree N I0 M0  = some r1) (e3 : fX12_tree N I1 L1 M1  = some r2) (k0 : KX11 I0 M0) (k1 : KX12 I1 M1) (hr : RQ I0 M0 I1 M1) : RQ r1.2.1 r1.2.2 r2.2.1 r2.2.2.2 := by
  have f3 := fr_fX12_tree e3
  have f1 := fr_fX11_tree e1
  exact ⟨⟨hr.1.1.cg (f1.1 0 (by decide)) (f3.1 3 (by decide)) (f1.2 0 (by decide)) (f3.2 8 (by decide)), hr.1.2.1.cg (f1.2 13 (by decide)) (f3.2 7 (by decide)), hr.1.2.2.cg (f1.1 9 (by decide)) (f1.1 10 (by decide)) (fun k h1 h2 => f1.2 k ((by decide : ∀ k, k < 7 → 1 ≤ k → ¬ k ∈ fwM_X11_tree) k h1 h2)) (f3.1 1 (by decide)) (f3.1 2 (by decide)) (fun k h1 => f3.2 k ((by decide : ∀ k, k < 7 → ¬ k ∈ fwM_X12_tree) k h1))⟩, trivial⟩
theorem rq_whence {N : Nat} (hN : 3000000000 ≤ N) {I0 : Nat → Int32} {M0 : Nat → Nat → Int32} {I1 : Nat → Int32} {L1 : Int64} {M1 : Nat → Nat → Int32} {x1 : Int32} {o2 : Nat → Int64} {r1} {r3} (e1 : fL_whence N I0 M0 x1 o2 = some r1) (e3 : fX12_whence N I1 L1 M1 x1 = some r3) (k0 : KX11 I0 M0) (k1 : KX12 I1 M1) (hr : RQ I0 M0 I1 M1) : RQ r1.2.1 r1.2.2.1 r3.2.1 r3.2.2.2 := by
  have f3 := fr_fX12_whence e3
  have f1 := fr_fL_whence e1
  exact ⟨⟨hr.1.1.cg (f1.1 0 (by decide)) (f3.1 3 (by decide)) (f1.2 0 (by decide)) (f3.2 8 (by decide)), hr.1.2.1.cg (f1.2 13 (by decide)) (f3.2 7 (by decide)), hr.1.2.2.cg (f1.1 9 (by decide)) (f1.1 10 (by decide)) (fun k h1 h2 => f1.2 k ((by decide : ∀ k, k < 7 → 1 ≤ k → ¬ k ∈ fwM_L_whence) k h1 h2)) (f3.1 1 (by decide)) (f3.1 2 (by decide)) (fun k h1 => f3.2 k ((by decide : ∀ k, k < 7 → ¬ k ∈ fwM_X12_whence) k h1))⟩, trivial⟩
theorem rq_life {N : Nat} (hN : 3000000000 ≤ N) {I0 : Nat → Int32} {M0 : Nat → Nat → Int32} {I1 : Nat → Int32} {L1 : Int64} {M1 : Nat → Nat → Int32} {x1 : Int32} {x2 : Int32} {x3 : Int32} {o4 : Nat → Int64} {r1} {r3} (e1 : fL_life N I0 M0 x1 x2 x3 o4 = some r1) (e3 : fX12_life N I1 L1 M1 x1 x2 x3 = some r3) (k0 : KX11 I0 M0) (k1 : KX12 I1 M1) (hr : RQ I0 M0 I1 M1) : RQ r1.2.1 r1.2.2.1 r3.2.1 r3.2.2.2 := by
  have f3 := fr_fX12_life e3
  have f1 := fr_fL_life e1
  exact ⟨⟨hr.1.1.cg (f1.1 0 (by decide)) (f3.1 3 (by decide)) (f1.2 0 (by decide)) (f3.2 8 (by decide)), hr.1.2.1.cg (f1.2 13 (by decide)) (f3.2 7 (by decide)), hr.1.2.2.cg (f1.1 9 (by decide)) (f1.1 10 (by decide)) (fun k h1 h2 => f1.2 k ((by decide : ∀ k, k < 7 → 1 ≤ k → ¬ k ∈ fwM_L_life) k h1 h2)) (f3.1 1 (by decide)) (f3.1 2 (by decide)) (fun k h1 => f3.2 k ((by decide : ∀ k, k < 7 → ¬ k ∈ fwM_X12_life) k h1))⟩, trivial⟩
theorem rq_fate {N : Nat} (hN : 3000000000 ≤ N) {I0 : Nat → Int32} {M0 : Nat → Nat → Int32} {I1 : Nat → Int32} {L1 : Int64} {M1 : Nat → Nat → Int32} {x1 : Int32} {x2 : Int32} {o3 : Nat → Int64} {r1} {r3} (e1 : fL_fate N I0 M0 x1 x2 o3 = some r1) (e3 : fX12_fate N I1 L1 M1 x1 x2 = some r3) (k0 : KX11 I0 M0) (k1 : KX12 I1 M1) (hr : RQ I0 M0 I1 M1) : RQ r1.2.1 r1.2.2.1 r3.2.1 r3.2.2.2 := by
  have f3 := fr_fX12_fate e3
  have f1 := fr_fL_fate e1
  exact ⟨⟨hr.1.1.cg (f1.1 0 (by decide)) (f3.1 3 (by decide)) (f1.2 0 (by decide)) (f3.2 8 (by decide)), hr.1.2.1.cg (f1.2 13 (by decide)) (f3.2 7 (by decide)), hr.1.2.2.cg (f1.1 9 (by decide)) (f1.1 10 (by decide)) (fun k h1 h2 => f1.2 k ((by decide : ∀ k, k < 7 → 1 ≤ k → ¬ k ∈ fwM_L_fate) k h1 h2)) (f3.1 1 (by decide)) (f3.1 2 (by decide)) (fun k h1 => f3.2 k ((by decide : ∀ k, k < 7 → ¬ k ∈ fwM_X12_fate) k h1))⟩, trivial⟩
theorem rq_fates {N : Nat} (hN : 3000000000 ≤ N) {I0 : Nat → Int32} {M0 : Nat → Nat → Int32} {I1 : Nat → Int32} {L1 : Int64} {M1 : Nat → Nat → Int32} {x1 : Int32} {o2 : Nat → Int64} {r1} {r3} (e1 : fL_fates N I0 M0 x1 o2 = some r1) (e3 : fX12_fates N I1 L1 M1 x1 = some r3) (k0 : KX11 I0 M0) (k1 : KX12 I1 M1) (hr : RQ I0 M0 I1 M1) : RQ r1.2.1 r1.2.2.1 r3.2.1 r3.2.2.2 := by
  have f3 := fr_fX12_fates e3
  have f1 := fr_fL_fates e1
  exact ⟨⟨hr.1.1.cg (f1.1 0 (by decide)) (f3.1 3 (by decide)) (f1.2 0 (by decide)) (f3.2 8 (by decide)), hr.1.2.1.cg (f1.2 13 (by decide)) (f3.2 7 (by decide)), hr.1.2.2.cg (f1.1 9 (by decide)) (f1.1 10 (by decide)) (fun k h1 h2 => f1.2 k ((by decide : ∀ k, k < 7 → 1 ≤ k → ¬ k ∈ fwM_L_fates) k h1 h2)) (f3.1 1 (by decide)) (f3.1 2 (by decide)) (fun k h1 => f3.2 k ((by decide : ∀ k, k < 7 → ¬ k ∈ fwM_X12_fates) k h1))⟩, trivial⟩
theorem rq_hits {N : Nat} (hN : 3000000000 ≤ N) {I0 : Nat → Int32} {M0 : Nat → Nat → Int32} {I1 : Nat → Int32} {L1 : Int64} {M1 : Nat → Nat → Int32} {x1 : Int32} {x2 : Int32} {o3 : Nat → Int64} {r1} {r3} (e1 : fL_hits N I0 M0 x1 x2 o3 = some r1) (e3 : fX12_hits N I1 L1 M1 x1 x2 = some r3) (k0 : KX11 I0 M0) (k1 : KX12 I1 M1) (hr : RQ I0 M0 I1 M1) : RQ r1.2.1 r1.2.2.1 r3.2.1 r3.2.2.2 := by
  have f3 := fr_fX12_hits e3
  have f1 := fr_fL_hits e1
  exact ⟨⟨hr.1.1.cg (f1.1 0 (by decide)) (f3.1 3 (by decide)) (f1.2 0 (by decide)) (f3.2 8 (by decide)), hr.1.2.1.cg (f1.2 13 (by decide)) (f3.2 7 (by decide)), hr.1.2.2.cg (f1.1 9 (by decide)) (f1.1 10 (by decide)) (fun k h1 h2 => f1.2 k ((by decide : ∀ k, k < 7 → 1 ≤ k → ¬ k ∈ fwM_L_hits) k h1 h2)) (f3.1 1 (by decide)) (f3.1 2 (by decide)) (fun k h1 => f3.2 k ((by decide : ∀ k, k < 7 → ¬ k ∈ fwM_X12_hits) k h1))⟩, trivial⟩

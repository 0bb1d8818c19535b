/-! CLIMATES -/
def psm (f : Nat → Int32) (o : Nat) : Nat → Int
  | 0 => 0
  | n + 1 => psm f o n + (f (o + n)).toInt
theorem psm_cg {f g : Nat → Int32} {o : Nat} : ∀ n, (∀ i, i < n → f (o + i) = g (o + i)) → psm f o n = psm g o n := by
  intro n
  induction n with
  | zero => intro _; rfl
  | succ n ih =>
    intro h
    show psm f o n + (f (o + n)).toInt = psm g o n + (g (o + n)).toInt
    rw [ih (fun i hi => h i (by omega)), h n (by omega)]
def HC (m4 : Nat → Int32) (c : Int) (ri : Nat → Int32) : Prop := (∀ k : Nat, k < 7 → (m4 (13 * k)).toInt = 0) ∧ ∀ k : Nat, (k : Int) < c → ∀ s : Nat, s ≤ 12 → (m4 (13 * k + s)).toInt = psm ri (12 * k) s
theorem tn9 {N : Nat} {I : Nat → Int32} {M : Nat → Nat → Int32} {a b : Int32} {R : Int32 × (Nat → Int32) × (Nat → Nat → Int32)} (h : fX9_takeNumber N I M a b = some R) : R.1 = 0 ∨ (R.1 = 1 ∧ I 4 = 2 ∧ ¬ (7 : Int32) < I 3 - I 2 ∧ R.2.1 6 = I 5 ∧ a.toInt ≤ (I 5).toInt ∧ (I 5).toInt ≤ b.toInt ∧ ∃ r2, fX9_step N (upd I 6 (I 5)) M = some r2 ∧ R = (1, r2.1, r2.2)) := by
  unfold fX9_takeNumber at h
  obtain ⟨r1, e1, h⟩ := wb_b h
  rcases hold e1 with ⟨c1, c2, c3, c4, c5⟩ | ⟨c1, -⟩ | ⟨c1, -⟩
  · right
    subst c1
    have h := wb_f (c := (1 : Int32) = 0) (by decide) h
    obtain ⟨r2, e2, h⟩ := wb_b h
    have h := Option.some.inj h
    subst h
    have c4 : ¬ _ := fun z => c4 ((lt32 rfl rfl).mpr z)
    have c5 := (le32 rfl rfl).mp c5
    exact ⟨rfl, c2, c3, (fr_fX9_step e2).1 6 (by decide), by omega, c5, r2, e2, rfl⟩
  · left
    subst c1
    have h := Option.some.inj (wb_t (c := (0 : Int32) = 0) rfl h)
    subst h
    rfl
  · left
    subst c1
    have h := Option.some.inj (wb_t (c := (0 : Int32) = 0) rfl h)
    subst h
    rfl
theorem rl4 {N fu y : Nat} {I0 I : Nat → Int32} {M0 M : Nat → Nat → Int32} {sum : Int32} {R : Int32 × (Nat → Int32) × (Nat → Nat → Int32) × (Nat → Int32) × (Nat → Nat → Int32)} (hy : y < 12) (h : fX2_readRising_L4 N (fu + 1) I0 M0 I M sum (nI y) = some R) : ∃ (least most : Int32) (r1 : Int32 × (Nat → Int32) × (Nat → Nat → Int32)), (y < 11 → least = 1 ∧ most = 9999999) ∧ (y = 11 → most = 3600 - sum ∧ least = if (1 : Int32) < 3600 - sum then 3600 - sum else 1) ∧ fX9_takeNumber N I M least most = some r1 ∧ ((r1.1 = 0 ∧ R = (0, I0, M0, r1.2.1, r1.2.2)) ∨ (¬ r1.1 = 0 ∧ fX2_readRising_L4 N fu I0 (wb_um M0 0 ((((13 : Int32) * (I0 0)) + nI y) + (1 : Int32)).toNatClampNeg (sum + r1.2.1 6)) r1.2.1 r1.2.2 (sum + r1.2.1 6) (nI (y + 1)) = some R)) := by
  rw [fX2_readRising_L4.eq_2] at h
  have ty : (nI y).toInt = (y : Int) := nI_toInt (by omega)
  have h := wb_f (fun z => by
    have := (le32 (by decide : (12 : Int32).toInt = 12) ty).mp z
    omega) h
  obtain ⟨v5, e5, h⟩ := wb_v h
  have j58 : ∀ (most least : Int32), fX2_readRising_J58 N (fun q0 q1 q2 q3 q4 q5 => fX2_readRising_L4 N fu q0 q1 q2 q3 q4 q5) I0 M0 I M sum (nI y) most least = some R → ∃ r1, fX9_takeNumber N I M least most = some r1 ∧ ((r1.1 = 0 ∧ R = (0, I0, M0, r1.2.1, r1.2.2)) ∨ (¬ r1.1 = 0 ∧ fX2_readRising_L4 N fu I0 (wb_um M0 0 ((((13 : Int32) * (I0 0)) + nI y) + (1 : Int32)).toNatClampNeg (sum + r1.2.1 6)) r1.2.1 r1.2.2 (sum + r1.2.1 6) (nI (y + 1)) = some R)) := by
    intro most least h
    unfold fX2_readRising_J58 at h
    obtain ⟨r1, e1, h⟩ := wb_b h
    refine ⟨r1, e1, ?_⟩
    rcases ifr h with ⟨c, h⟩ | ⟨c, h⟩
    · exact Or.inl ⟨c, (Option.some.inj h).symm⟩
    · right
      obtain ⟨v2, e2, h⟩ := wb_v h
      obtain ⟨-, h⟩ := wb_n h
      obtain ⟨M3, e3, h⟩ := wb_v h
      obtain ⟨v4, e4, h⟩ := wb_v h
      rw [e4, nI_1, e3, e2] at h
      exact ⟨c, h⟩
  rcases ifr h with ⟨c, h⟩ | ⟨c, h⟩
  · have c := (eq32 ty (by decide : (11 : Int32).toInt = 11)).mp c
    unfold fX2_readRising_J28 fX2_readRising_J46 at h
    have h := wb_f (c := (1 : Int32) = 0) (by decide) h
    have h := wb_f (c := (1 : Int32) = 0) (by decide) h
    rw [e5] at h
    obtain ⟨r1, t⟩ := j58 _ _ h
    exact ⟨_, _, r1, fun z => by omega, fun _ => ⟨rfl, rfl⟩, t⟩
  · have c : ¬ _ := fun z => c ((eq32 ty (by decide : (11 : Int32).toInt = 11)).mpr z)
    unfold fX2_readRising_J28 fX2_readRising_J46 at h
    have h := wb_t (c := (0 : Int32) = 0) rfl h
    have h := wb_t (c := (0 : Int32) = 0) rfl h
    obtain ⟨r1, t⟩ := j58 _ _ h
    exact ⟨_, _, r1, fun _ => ⟨rfl, rfl⟩, fun z => by omega, t⟩
/-- RISING numbers of 3600 or more ahead of the 12th: the class refuses in the end -/
theorem r_bad {N : Nat} : ∀ (fu y : Nat) (I0 I : Nat → Int32) (M0 M : Nat → Nat → Int32) (sum : Int32) R, fX2_readRising_L4 N fu I0 M0 I M sum (nI y) = some R → y ≤ 11 → 3600 ≤ sum.toInt → sum.toInt ≤ 10000000 * (y : Int) → R.1 = 0 := by
  intro fu
  induction fu with
  | zero => intro y I0 I M0 M sum R h; cases (show none = some R from h)
  | succ fu ih =>
    intro y I0 I M0 M sum R h hy h1 h2
    obtain ⟨least, most, r1, l1, l2, e1, t⟩ := rl4 (by omega) h
    rcases t with ⟨-, t⟩ | ⟨c, t⟩
    · rw [t]
    · rcases tn9 e1 with q | ⟨q1, q2, q3, q4, q5, q6, r2, q7, q8⟩
      · exact absurd q c
      · by_cases hy2 : y = 11
        · exfalso
          obtain ⟨l3, l4⟩ := l2 hy2
          have n36 : (3600 : Int32).toInt = 3600 := by decide
          have v := ia_sub 3600 sum (by omega) (by omega)
          rw [n36] at v
          rw [l3, v] at q6
          rw [if_neg (fun z => by
            have := (lt32 (by decide : (1 : Int32).toInt = 1) v).mp z
            omega)] at l4
          rw [l4, show (1 : Int32).toInt = 1 from by decide] at q5
          omega
        · obtain ⟨l3, l4⟩ := l1 (by omega)
          rw [l3, show (1 : Int32).toInt = 1 from by decide] at q5
          rw [l4, show (9999999 : Int32).toInt = 9999999 from by decide] at q6
          rw [q4] at t
          have v := ia_add sum (I 5) (by omega) (by omega)
          exact ih (y + 1) _ _ _ _ _ R t (by omega) (by omega) (by omega)
theorem n155 {N : Nat} {J : Nat → Int32} {L : Int64} {K : Nat → Nat → Int32} {S : (Nat → Int32) × Int64 × (Nat → Nat → Int32)} (j4 : ¬ J 4 = 0) (h : fX12_readsClimate_J155 N J L K = some S) : S = (J, L, K) := by
  unfold fX12_readsClimate_J155 at h
  rw [good2 j4, Option.bind_some] at h
  exact (Option.some.inj (wb_t (c := (0 : Int32) = 0) rfl h)).symm
theorem n43 {N fv : Nat} {J : Nat → Int32} {L : Int64} {K : Nat → Nat → Int32} {a b : Int32} {S : (Nat → Int32) × Int64 × (Nat → Nat → Int32)} (j4 : ¬ J 4 = 0) (h : fX12_readsClimate_L43 N fv J L K a b = some S) : S = (J, L, K) := by
  cases fv with
  | zero => cases (show none = some S from h)
  | succ fv =>
    rw [fX12_readsClimate_L43.eq_2] at h
    rcases ifr h with ⟨-, h⟩ | ⟨-, h⟩
    · exact n155 j4 h
    · rw [good2 j4, Option.bind_some] at h
      exact n155 j4 (wb_t (c := (0 : Int32) = 0) rfl h)
theorem rc43 {N fv y : Nat} {J : Nat → Int32} {L : Int64} {K : Nat → Nat → Int32} {sum : Int32} {S : (Nat → Int32) × Int64 × (Nat → Nat → Int32)} (hy : y < 12) (j4 : J 4 = 0) (g : fX12_readsClimate_L43 N (fv + 1) J L K sum (nI y) = some S) : (y = 11 ∧ J 8 = 2 ∧ ¬ (7 : Int32) < J 10 ∧ ¬ J 11 = 3600 - sum ∧ ¬ S.1 4 = 0) ∨ ((y = 11 → J 8 = 2 → ¬ (7 : Int32) < J 10 → J 11 = 3600 - sum) ∧ ∃ r6, fX12_number N J L K 1 3600 = some r6 ∧ ((¬ r6.2.1 4 = 0 ∧ ¬ S.1 4 = 0) ∨ (r6.2.1 4 = 0 ∧ fX12_readsClimate_L43 N fv r6.2.1 r6.2.2.1 (wb_um r6.2.2.2 13 (((12 : Int32) * (r6.2.1 13)) + nI y).toNatClampNeg r6.1) (sum + r6.1) (nI (y + 1)) = some S))) := by
  rw [fX12_readsClimate_L43.eq_2] at g
  have ty : (nI y).toInt = (y : Int) := nI_toInt (by omega)
  have g := wb_f (fun z => by
    have := (le32 (by decide : (12 : Int32).toInt = 12) ty).mp z
    omega) g
  rw [good1 j4, Option.bind_some] at g
  have g := wb_f (c := (1 : Int32) = 0) (by decide) g
  obtain ⟨v16, e16, g⟩ := wb_v g
  have j111 : ∀ (J : Nat → Int32) (L : Int64) (K : Nat → Nat → Int32), fX12_readsClimate_J111 N (fun q0 q1 q2 q3 q4 => fX12_readsClimate_L43 N fv q0 q1 q2 q3 q4) J L K sum (nI y) = some S → ∃ r6, fX12_number N J L K 1 3600 = some r6 ∧ ((¬ r6.2.1 4 = 0 ∧ S = (r6.2.1, r6.2.2.1, r6.2.2.2)) ∨ (r6.2.1 4 = 0 ∧ fX12_readsClimate_L43 N fv r6.2.1 r6.2.2.1 (wb_um r6.2.2.2 13 (((12 : Int32) * (r6.2.1 13)) + nI y).toNatClampNeg r6.1) (sum + r6.1) (nI (y + 1)) = some S)) := by
    intro J L K g
    unfold fX12_readsClimate_J111 at g
    obtain ⟨r6, e6, g⟩ := wb_b g
    refine ⟨r6, e6, ?_⟩
    obtain ⟨v7, e7, g⟩ := wb_v g
    obtain ⟨r8, e8, g⟩ := wb_b g
    rcases good0 e8 with ⟨q, q2⟩ | ⟨q, q2⟩
    · right
      have g := wb_f (by rw [q]; decide) g
      obtain ⟨-, g⟩ := wb_n g
      obtain ⟨K11, e11, g⟩ := wb_v g
      obtain ⟨v12, e12, g⟩ := wb_v g
      obtain ⟨v13, e13, g⟩ := wb_v g
      rw [e13, nI_1, e12, e11, e7] at g
      exact ⟨q2, g⟩
    · left
      have g := wb_t q g
      obtain ⟨v12, e12, g⟩ := wb_v g
      obtain ⟨v13, e13, g⟩ := wb_v g
      exact ⟨q2, n43 q2 g⟩
  have j97 : fX12_readsClimate_J97 N (fun q0 q1 q2 q3 q4 => fX12_readsClimate_L43 N fv q0 q1 q2 q3 q4) J L K sum (nI y) = some S → ∃ r6, fX12_number N J L K 1 3600 = some r6 ∧ ((¬ r6.2.1 4 = 0 ∧ ¬ S.1 4 = 0) ∨ (r6.2.1 4 = 0 ∧ fX12_readsClimate_L43 N fv r6.2.1 r6.2.2.1 (wb_um r6.2.2.2 13 (((12 : Int32) * (r6.2.1 13)) + nI y).toNatClampNeg r6.1) (sum + r6.1) (nI (y + 1)) = some S)) := by
    intro g
    unfold fX12_readsClimate_J97 fX12_readsClimate_J98 at g
    have g := wb_f (c := (0 : Int32) = -1) (by decide) g
    obtain ⟨r6, e6, t⟩ := j111 J L K g
    refine ⟨r6, e6, ?_⟩
    rcases t with ⟨t1, t2⟩ | t
    · left
      refine ⟨t1, ?_⟩
      rw [t2]; exact t1
    · exact Or.inr t
  rcases ifr g with ⟨c, g⟩ | ⟨c, g⟩
  · have c := (eq32 ty (by decide : (11 : Int32).toInt = 11)).mp c
    rcases ifr g with ⟨c2, g⟩ | ⟨c2, g⟩
    · rcases ifr g with ⟨c3, g⟩ | ⟨c3, g⟩
      · exact Or.inr ⟨fun _ _ z => absurd c3 z, j97 g⟩
      · rcases ifr g with ⟨c4, g⟩ | ⟨c4, g⟩
        · exact Or.inr ⟨fun _ _ _ => c4.trans e16, j97 g⟩
        · left
          refine ⟨by omega, c2, c3, fun z => c4 (z.trans e16.symm), ?_⟩
          unfold fX12_readsClimate_J98 at g
          have g := wb_t (c := (-1 : Int32) = -1) rfl g
          obtain ⟨r14, e14, g⟩ := wb_b g
          have e14 := wrg0 j4 e14
          subst e14
          obtain ⟨r6, e6, t⟩ := j111 _ _ _ g
          have e6 := num_n (J := upd (upd J 4 2) 5 (J 9)) (show ¬ (2 : Int32) = 0 by decide) e6
          subst e6
          rcases t with ⟨t1, t2⟩ | ⟨t1, t2⟩
          · rw [t2]; exact t1
          · exact absurd t1 (show ¬ (2 : Int32) = 0 by decide)
    · exact Or.inr ⟨fun _ z => absurd z c2, j97 g⟩
  · have c : ¬ _ := fun z => c ((eq32 ty (by decide : (11 : Int32).toInt = 11)).mpr z)
    exact Or.inr ⟨fun z => by omega, j97 g⟩
/-- the RISING numbers of both -/
theorem risl {N N2 : Nat} {M : Nat → Nat → Int32} {c : Nat} (hc : c < 7) : ∀ (fu fv y : Nat) (I0 I : Nat → Int32) (M0 : Nat → Nat → Int32) (J : Nat → Int32) (L : Int64) (K : Nat → Nat → Int32) (sum : Int32) R S, fX2_readRising_L4 N fu I0 M0 I M sum (nI y) = some R → fX12_readsClimate_L43 N2 fv J L K sum (nI y) = some S → y ≤ 12 → TK I J L M K → J 4 = 0 → I0 0 = nI c → J 13 = nI c → HC (M0 0) (c : Int) (K 13) → (∀ s, s ≤ y → (M0 0 (13 * c + s)).toInt = psm (K 13) (12 * c) s) → sum.toInt = psm (K 13) (12 * c) y → 0 ≤ sum.toInt → sum.toInt ≤ 3600 * (y : Int) →
    (R.1 = 0 ∧ ¬ S.1 4 = 0) ∨ (R.1 = 1 ∧ TK R.2.2.2.1 S.1 S.2.1 M S.2.2 ∧ S.1 4 = 0 ∧ S.1 13 = nI (c + 1) ∧ R.2.2.2.2 = M ∧ R.2.1 = I0 ∧ HC (R.2.2.1 0) ((c : Int) + 1) (S.2.2 13) ∧ (I 3).toInt ≤ (R.2.2.2.1 3).toInt) := by
  intro fu
  induction fu with
  | zero => intro fv y I0 I M0 J L K sum R S h; cases (show none = some R from h)
  | succ fu ih =>
    intro fv y I0 I M0 J L K sum R S h g hy tk j4 hi hj hcl hs hsum hs0 hs1
    cases fv with
    | zero => cases (show none = some S from g)
    | succ fv =>
      have ty : (nI y).toInt = (y : Int) := nI_toInt (by omega)
      by_cases hy12 : y = 12
      · right
        rw [fX2_readRising_L4.eq_2] at h
        rw [fX12_readsClimate_L43.eq_2] at g
        have c12 : (12 : Int32) ≤ nI y := (le32 (by decide : (12 : Int32).toInt = 12) ty).mpr (by omega)
        have h := Option.some.inj (wb_t c12 h)
        subst h
        have g := wb_t c12 g
        unfold fX12_readsClimate_J155 at g
        rw [good1 j4, Option.bind_some] at g
        have g := wb_f (c := (1 : Int32) = 0) (by decide) g
        obtain ⟨J2, e2, g⟩ := wb_v g
        have g := Option.some.inj g
        subst g
        have e13 : J 13 + 1 = nI (c + 1) := by rw [hj, nI_1]
        rw [e13] at e2
        refine ⟨rfl, ?_, ?_, ?_, rfl, rfl, ?_, Int.le_refl _⟩
        · show TK I J2 L M K
          rw [e2]; exact tk
        · show J2 4 = 0
          rw [e2]; exact j4
        · show J2 13 = _
          rw [e2]; rfl
        · refine ⟨hcl.1, fun k hk s hs2 => ?_⟩
          by_cases hk2 : k = c
          · subst hk2
            exact hs s (by omega)
          · exact hcl.2 k (by omega) s hs2
      · obtain ⟨least, most, r1, l1, l2, e1, t⟩ := rl4 (by omega) h
        have tk2 := tk
        obtain ⟨q, b1, b2, b3, b4, b5, b6, b7⟩ := tk2
        have e10 : I 3 - I 2 = J 10 := by rw [b5, q.2.1, b1]
        have n36 : (3600 : Int32).toInt = 3600 := by decide
        have n1 : (1 : Int32).toInt = 1 := by decide
        have v := ia_sub 3600 sum (by omega) (by omega)
        rw [n36] at v
        rcases rc43 (by omega) j4 g with ⟨g1, g2, g3, g4, g5⟩ | ⟨g1, r6, f6, u⟩
        · left
          refine ⟨?_, g5⟩
          rcases t with ⟨-, t⟩ | ⟨cc, t⟩
          · rw [t]
          · exfalso
            rcases tn9 e1 with q | ⟨q1, q2, q3, q4, q5, q6, -⟩
            · exact absurd q cc
            · obtain ⟨l3, l4⟩ := l2 g1
              apply g4
              apply t32
              rw [← b6 q2, v]
              rw [l3, v] at q6
              rw [l4] at q5
              by_cases z : (1 : Int32) < 3600 - sum
              · rw [if_pos z, v] at q5
                omega
              · rw [if_neg z, n1] at q5
                have z : ¬ _ := fun w => z ((lt32 n1 v).mpr w)
                omega
        · rcases t with ⟨t0, t⟩ | ⟨cc, t⟩
          · left
            refine ⟨by rw [t], ?_⟩
            rcases u with ⟨-, u⟩ | ⟨u0, -⟩
            · exact u
            · exfalso
              rcases numr j4 f6 with ⟨d1, d2, d3, d4, r3, d5, d6⟩ | ⟨d1, d2, d3⟩ | ⟨d1, d2⟩
              · have d3 : ¬ _ := fun z => d3 ((lt32 (a := J 11) rfl n1).mpr z)
                have d4 := (le32 (a := J 11) rfl n36).mp d4
                have i4 := b2.trans d1
                have e5 := b6 i4
                -- the class's number is as told too
                have hr : ∀ R', fX9_takeNumber N I M least most = some R' → ¬ R'.1 = 0 := by
                  intro R' h'
                  unfold fX9_takeNumber at h'
                  obtain ⟨r, e, h'⟩ := wb_b h'
                  rcases hold e with ⟨c1, -⟩ | ⟨-, -, c3⟩ | ⟨-, c2⟩
                  · subst c1
                    have h' := wb_f (c := (1 : Int32) = 0) (by decide) h'
                    obtain ⟨r2, -, h'⟩ := wb_b h'
                    have h' := Option.some.inj h'
                    subst h'
                    show ¬ (1 : Int32) = 0
                    decide
                  · exfalso
                    rw [e10] at c3
                    by_cases hy11 : y = 11
                    · obtain ⟨l3, l4⟩ := l2 hy11
                      have e11 := g1 hy11 d1 d2
                      have e11t : (J 11).toInt = 3600 - sum.toInt := by rw [e11, v]
                      rcases c3 with c3 | c3 | c3
                      · exact d2 c3
                      · have c3 := (lt32 (a := I 5) rfl rfl).mp c3
                        rw [e5, l4] at c3
                        by_cases z : (1 : Int32) < 3600 - sum
                        · rw [if_pos z, v] at c3
                          omega
                        · rw [if_neg z, n1] at c3
                          omega
                      · exact c3 ((le32 (a := I 5) rfl rfl).mpr (by rw [e5, l3, v]; omega))
                    · obtain ⟨l3, l4⟩ := l1 (by omega)
                      rcases c3 with c3 | c3 | c3
                      · exact d2 c3
                      · have c3 := (lt32 (a := I 5) rfl rfl).mp c3
                        rw [e5, l3, n1] at c3
                        omega
                      · exact c3 ((le32 (a := I 5) rfl rfl).mpr (by rw [e5, l4, show (9999999 : Int32).toInt = 9999999 from by decide]; omega))
                  · exact absurd i4 c2
                exact hr r1 e1 t0
              · rw [d3] at u0
                exact absurd u0 (show ¬ (2 : Int32) = 0 by decide)
              · rw [d2] at u0
                exact absurd u0 (show ¬ (1 : Int32) = 0 by decide)
          · rcases tn9 e1 with q' | ⟨q1, q2, q3, q4, q5, q6, r2, q7, q8⟩
            · exact absurd q' cc
            · have e5 := b6 q2
              rcases numr j4 f6 with ⟨d1, d2, d3, d4, r3, d5, d6⟩ | ⟨d1, d2, d3⟩ | ⟨d1, d2⟩
              · have d3 : ¬ _ := fun z => d3 ((lt32 (a := J 11) rfl n1).mpr z)
                have d4 := (le32 (a := J 11) rfl n36).mp d4
                subst d6
                obtain ⟨t1, t2, t3, t4, t5, t6, t7⟩ := st_all q7 d5 (tk.w6 _) j4
                subst q8
                rcases u with ⟨u0, -⟩ | ⟨u0, u⟩
                · exact absurd t2 u0
                · have t : fX2_readRising_L4 N fu I0 (wb_um M0 0 ((((13 : Int32) * (I0 0)) + nI y) + (1 : Int32)).toNatClampNeg (sum + r2.1 6)) r2.1 r2.2 (sum + r2.1 6) (nI (y + 1)) = some R := t
                  have u : fX12_readsClimate_L43 N2 fv r3.1 r3.2.1 (wb_um r3.2.2 13 (((12 : Int32) * (r3.1 13)) + nI y).toNatClampNeg (J 11)) (sum + J 11) (nI (y + 1)) = some S := u
                  have q4 : r2.1 6 = I 5 := q4
                  have r13 : r3.1 13 = nI c := ((fr_fX12_steps d5).1 13 (by decide)).trans hj
                  rw [q4, e5, t3, hi] at t
                  rw [t4, r13] at u
                  have tc : (nI c).toInt = (c : Int) := nI_toInt (by omega)
                  have n13 : (13 : Int32).toInt = 13 := by decide
                  have n12 : (12 : Int32).toInt = 12 := by decide
                  have x1 := ia_mul 13 13 n13 (nI c) (by omega) (by omega)
                  have x2 := ia_add ((13 : Int32) * nI c) (nI y) (by omega) (by omega)
                  have x3 := ia_add ((13 : Int32) * nI c + nI y) 1 (by omega) (by omega)
                  have x4 := ia_mul 12 12 n12 (nI c) (by omega) (by omega)
                  have x5 := ia_add ((12 : Int32) * nI c) (nI y) (by omega) (by omega)
                  have i1 : ((13 : Int32) * nI c + nI y + 1).toNatClampNeg = 13 * c + (y + 1) := by rw [cl32]; omega
                  have i2 : ((12 : Int32) * nI c + nI y).toNatClampNeg = 12 * c + y := by rw [cl32]; omega
                  rw [i1] at t
                  rw [i2] at u
                  have vs := ia_add sum (J 11) (by omega) (by omega)
                  have kcg : ∀ o n, o + n ≤ 12 * c + y → psm (upd (K 13) (12 * c + y) (J 11)) o n = psm (K 13) o n := by
                    intro o n hon
                    refine psm_cg n (fun i hi => ?_)
                    unfold upd
                    rw [if_neg (by omega)]
                  have kst : psm (upd (K 13) (12 * c + y) (J 11)) (12 * c) (y + 1) = psm (K 13) (12 * c) y + (J 11).toInt := by
                    show psm _ _ y + (upd (K 13) (12 * c + y) (J 11) (12 * c + y)).toInt = _
                    rw [kcg _ _ (Nat.le_refl _)]
                    unfold upd
                    rw [if_pos rfl]
                  have res := ih fv (y + 1) I0 r2.1 (wb_um M0 0 (13 * c + (y + 1)) (sum + J 11)) r3.1 r3.2.1 (wb_um K 13 (12 * c + y) (J 11)) (sum + J 11) R S t u (by omega) (t1.cgK rfl) t2 hi r13 (by
                    show HC (upd (M0 0) (13 * c + (y + 1)) (sum + J 11)) (c : Int) (upd (K 13) (12 * c + y) (J 11))
                    refine ⟨fun k hk => ?_, fun k hk s hs2 => ?_⟩
                    · unfold upd
                      rw [if_neg (by omega)]
                      exact hcl.1 k hk
                    · rw [kcg _ _ (by omega)]
                      unfold upd
                      rw [if_neg (by omega)]
                      exact hcl.2 k hk s hs2) (by
                    intro s hs2
                    show (upd (M0 0) (13 * c + (y + 1)) (sum + J 11) (13 * c + s)).toInt = psm (upd (K 13) (12 * c + y) (J 11)) (12 * c) s
                    by_cases hsy : s = y + 1
                    · subst hsy
                      rw [kst]
                      unfold upd
                      rw [if_pos rfl]
                      omega
                    · rw [kcg _ _ (by omega)]
                      unfold upd
                      rw [if_neg (by omega)]
                      exact hs s (by omega)) (by
                    show (sum + J 11).toInt = psm (upd (K 13) (12 * c + y) (J 11)) (12 * c) (y + 1)
                    rw [kst]; omega) (by omega) (by omega)
                  rcases res with w | ⟨w1, w3, w4, w5, w6, w7, w8, w9⟩
                  · exact Or.inl w
                  · refine Or.inr ⟨w1, w3, w4, w5, w6, w7, w8, ?_⟩
                    have y1 := t1.2.2.2.2.1
                    have y2 : (I 3).toInt ≤ (r2.1 2).toInt := t5
                    omega
              · left
                have u0 : ¬ S.1 4 = 0 := by
                  rcases u with ⟨-, u⟩ | ⟨u0, -⟩
                  · exact u
                  · rw [d3] at u0
                    exact absurd u0 (show ¬ (2 : Int32) = 0 by decide)
                refine ⟨?_, u0⟩
                -- the class took a number that is too much for the reference
                have e5t : (I 5).toInt = (J 11).toInt := by rw [e5]
                rcases d2 with d2 | d2 | d2
                · rw [← e10] at d2
                  exact absurd d2 q3
                · exfalso
                  have d2 := (lt32 (a := J 11) rfl n1).mp d2
                  by_cases hy11 : y = 11
                  · obtain ⟨l3, l4⟩ := l2 hy11
                    rw [l4] at q5
                    by_cases z : (1 : Int32) < 3600 - sum
                    · rw [if_pos z, v] at q5
                      have z := (lt32 n1 v).mp z
                      omega
                    · rw [if_neg z, n1] at q5
                      omega
                  · obtain ⟨l3, l4⟩ := l1 (by omega)
                    rw [l3, n1] at q5
                    omega
                · have d2 : ¬ _ := fun z => d2 ((le32 (a := J 11) rfl n36).mpr z)
                  by_cases hy11 : y = 11
                  · exfalso
                    obtain ⟨l3, l4⟩ := l2 hy11
                    rw [l3, v] at q6
                    omega
                  · obtain ⟨l3, l4⟩ := l1 (by omega)
                    rw [l4, show (9999999 : Int32).toInt = 9999999 from by decide] at q6
                    rw [q4] at t
                    have vs := ia_add sum (I 5) (by omega) (by omega)
                    exact r_bad fu (y + 1) _ _ _ _ _ R t (by omega) (by omega) (by omega)
              · exact absurd (b2.symm.trans q2) d1

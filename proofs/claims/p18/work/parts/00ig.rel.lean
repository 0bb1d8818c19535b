/-! ERRORS of both -/
noncomputable def bb (p q r s : Bool) : Int32 := nI ((if p then 1 else 0) + (if q then 2 else 0) + (if r then 4 else 0) + (if s then 8 else 0))
/-- a DEGREE by a SET, as the class reads it -/
theorem sa_st {N : Nat} {I : Nat → Int32} {m : Nat → Nat → Int32} {x k d : Int32} {fu : Nat} {v y a : Int32} (hy : ¬ (4 : Int32) ≤ y) (h : fX3_setsAt_L6 N I m x k d (fu + 1) v y = some a) : ∃ r, fX5_degreeOn N I m y k d = some r ∧ fX3_setsAt_L6 N I m x k d fu (if r = x then v ||| ((1 : Int32) <<< (y &&& 31)) else v) (y + 1) = some a := by
  rw [fX3_setsAt_L6.eq_2] at h
  have h := wb_f hy h
  obtain ⟨r, e, h⟩ := wb_b h
  refine ⟨r, e, ?_⟩
  rcases ifr h with ⟨c, h⟩ | ⟨c, h⟩
  · obtain ⟨u, f, h⟩ := wb_v h
    obtain ⟨w, g, h⟩ := wb_v h
    rw [f, g] at h
    rw [if_pos c]
    exact h
  · obtain ⟨w, g, h⟩ := wb_v h
    rw [g] at h
    rw [if_neg c]
    exact h
/-- what the class holds of a WANDERER -/
noncomputable def Cd (N : Nat) (I2 : Nat → Int32) (m2 : Nat → Nat → Int32) (I1 : Nat → Int32) (m1 : Nat → Nat → Int32) (n d : Int32) (k : Nat) (c : Int32) : Prop := ∃ r, fX1_degreeOf N I2 m2 n (nI k) = some r ∧ ((r = -1 ∧ c = -1) ∨ (¬ r = -1 ∧ ∃ d0 d1 d2 d3, fX5_degreeOn N I1 m1 0 (nI k) d = some d0 ∧ fX5_degreeOn N I1 m1 1 (nI k) d = some d1 ∧ fX5_degreeOn N I1 m1 2 (nI k) d = some d2 ∧ fX5_degreeOn N I1 m1 3 (nI k) d = some d3 ∧ ((d0 = r ∧ c = -1) ∨ (¬ d0 = r ∧ c = bb false (decide (d1 = r)) (decide (d2 = r)) (decide (d3 = r))))))
/-- what a WANDERER adds -/
noncomputable def ecf (c : Int32) : Int32 := if c = -1 then 0 else 1
noncomputable def scf (s c : Int32) : Int32 := if c = -1 then 0 else if ((c >>> (s &&& 31)) &&& 1) = 1 then 1 else 0
noncomputable def acf (s c : Int32) : Int32 := if c = ((1 : Int32) <<< (s &&& 31)) then 1 else 0
noncomputable def wcf (s c : Int32) : Int32 := if scf s c = 0 then 0 else if (fJ6_bitCount_0f7a4 0 c).getD 0 ≤ 0 then 0 else 6 / (fJ6_bitCount_0f7a4 0 c).getD 0
/-! the reference's rows -/
noncomputable def up3 (K : Nat → Nat → Int32) (s : Nat) (p : Bool) (b : Int32) : Nat → Nat → Int32 := if p then wb_um (wb_um (wb_um K 20 s (K 20 s + 1)) 21 s (K 21 s + (if b = 1 then 1 else 0))) 22 s (K 22 s + 6 / b) else K
/-- one SET in the reference's inner loop -/
theorem l187 {N : Nat} {x1 x2 x3 x4 r4 v7 b y90 : Int32} {g51 : (Nat → Int32) → Int64 → (Nat → Nat → Int32) → Int32 → Option (Int32 × (Nat → Int32) × Int64 × (Nat → Nat → Int32))} {g90 : (Nat → Int32) → Int64 → (Nat → Nat → Int32) → Int32 → Int32 → Option (Int32 × (Nat → Int32) × Int64 × (Nat → Nat → Int32))} {g145 : (Nat → Int32) → Int64 → (Nat → Nat → Int32) → Int32 → Int32 → Option (Int32 × (Nat → Int32) × Int64 × (Nat → Nat → Int32))} {fu s : Nat} (hs : s < 4) {J : Nat → Int32} {L : Int64} {K : Nat → Nat → Int32} {S : Int32 × (Nat → Int32) × Int64 × (Nat → Nat → Int32)} (h : fX12_errors_L187 N x1 x2 x3 x4 r4 v7 b y90 g51 g90 g145 (fu + 1) J L K (nI s) = some S) : ∃ q, fX12_placeOn N J L K (nI s) y90 x3 = some q ∧ fX12_errors_L187 N x1 x2 x3 x4 r4 v7 b y90 g51 g90 g145 fu J L (up3 K s (decide (q / 60 = r4)) b) (nI (s + 1)) = some S := by
  rw [fX12_errors_L187.eq_2, nI_clamp (by omega)] at h
  have h := wb_f (nI_ge (a := s) (b := 4) hs (by omega)) h
  obtain ⟨q, e, h⟩ := wb_b h
  refine ⟨q, e, ?_⟩
  rcases ifr h with ⟨c, h⟩ | ⟨c, h⟩
  · rw [decide_eq_true c]
    unfold up3
    rw [if_pos rfl]
    obtain ⟨-, h⟩ := wb_n h
    obtain ⟨-, h⟩ := wb_n h
    obtain ⟨m13, e13, h⟩ := wb_v h
    obtain ⟨-, h⟩ := wb_n h
    have fin : ∀ z : Int32, fX12_errors_J243 N x1 x2 x3 x4 r4 v7 b y90 g51 g90 g145 (fun q0 q1 q2 q3 => fX12_errors_L187 N x1 x2 x3 x4 r4 v7 b y90 g51 g90 g145 fu q0 q1 q2 q3) J L m13 (nI s) z (m13 21 s) (nI s) = some S → fX12_errors_L187 N x1 x2 x3 x4 r4 v7 b y90 g51 g90 g145 fu J L (wb_um (wb_um (wb_um K 20 s (K 20 s + 1)) 21 s (K 21 s + z)) 22 s (K 22 s + 6 / b)) (nI (s + 1)) = some S := by
      intro z h
      unfold fX12_errors_J243 at h
      rw [nI_clamp (by omega)] at h
      obtain ⟨-, h⟩ := wb_n h
      obtain ⟨m8, e8, h⟩ := wb_v h
      obtain ⟨-, h⟩ := wb_n h
      obtain ⟨-, h⟩ := wb_n h
      obtain ⟨-, h⟩ := wb_n h
      obtain ⟨m9, e9, h⟩ := wb_v h
      obtain ⟨v10, e10, h⟩ := wb_v h
      rw [e9, e10, e8, e13, nI_1] at h
      exact h
    rcases ifr h with ⟨c2, h⟩ | ⟨c2, h⟩
    · rw [if_pos c2]; exact fin 1 h
    · rw [if_neg c2]; exact fin 0 h
  · rw [decide_eq_false c]
    unfold up3
    rw [if_neg (by decide)]
    obtain ⟨w, ew, h⟩ := wb_v h
    rw [ew, nI_1] at h
    exact h
theorem l145 {N : Nat} {x1 x2 x3 x4 r4 v7 y90 : Int32} {g51 : (Nat → Int32) → Int64 → (Nat → Nat → Int32) → Int32 → Option (Int32 × (Nat → Int32) × Int64 × (Nat → Nat → Int32))} {g90 : (Nat → Int32) → Int64 → (Nat → Nat → Int32) → Int32 → Int32 → Option (Int32 × (Nat → Int32) × Int64 × (Nat → Nat → Int32))} {fu s : Nat} (hs : s < 4) {J : Nat → Int32} {L : Int64} {K : Nat → Nat → Int32} {b : Int32} {S : Int32 × (Nat → Int32) × Int64 × (Nat → Nat → Int32)} (h : fX12_errors_L145 N x1 x2 x3 x4 r4 v7 y90 g51 g90 (fu + 1) J L K b (nI s) = some S) : ∃ q, fX12_placeOn N J L K (nI s) y90 x3 = some q ∧ fX12_errors_L145 N x1 x2 x3 x4 r4 v7 y90 g51 g90 fu J L K (b + (if q / 60 = r4 then 1 else 0)) (nI (s + 1)) = some S := by
  rw [fX12_errors_L145.eq_2] at h
  have h := wb_f (nI_ge (a := s) (b := 4) hs (by omega)) h
  obtain ⟨q, e, h⟩ := wb_b h
  refine ⟨q, e, ?_⟩
  rcases ifr h with ⟨c, h⟩ | ⟨c, h⟩
  · obtain ⟨u, f, h⟩ := wb_v h
    obtain ⟨w, ew, h⟩ := wb_v h
    rw [f, ew, nI_1] at h
    rw [if_pos c]
    exact h
  · obtain ⟨u, f, h⟩ := wb_v h
    obtain ⟨w, ew, h⟩ := wb_v h
    rw [f, ew, nI_1] at h
    rw [if_neg c]
    exact h
theorem up3_o {K : Nat → Nat → Int32} {s : Nat} {p : Bool} {b : Int32} {j : Nat} (hj : j < 20) : up3 K s p b j = K j := by
  unfold up3
  cases p with
  | false => rfl
  | true =>
    rw [if_pos rfl]
    unfold wb_um
    rw [if_neg (by omega), if_neg (by omega), if_neg (by omega)]
theorem up3_v {K : Nat → Nat → Int32} {s : Nat} {p : Bool} {b : Int32} (t : Nat) : up3 K s p b 20 t = (if t = s then K 20 t + (if p then 1 else 0) else K 20 t) ∧ up3 K s p b 21 t = (if t = s then K 21 t + (if p then (if b = 1 then 1 else 0) else 0) else K 21 t) ∧ up3 K s p b 22 t = (if t = s then K 22 t + (if p then 6 / b else 0) else K 22 t) := by
  unfold up3
  cases p with
  | false =>
    simp only [Bool.false_eq_true, if_false, z32, ite_self]
    exact ⟨trivial, trivial, trivial⟩
  | true =>
    simp only [if_true]
    refine ⟨?_, ?_, ?_⟩
    · show upd (K 20) s (K 20 s + 1) t = _
      unfold upd
      by_cases e : t = s
      · rw [if_pos e, if_pos e, e]
      · rw [if_neg e, if_neg e]
    · show upd (K 21) s (K 21 s + (if b = 1 then 1 else 0)) t = _
      unfold upd
      by_cases e : t = s
      · rw [if_pos e, if_pos e, e]
      · rw [if_neg e, if_neg e]
    · show upd (K 22) s (K 22 s + 6 / b) t = _
      unfold upd
      by_cases e : t = s
      · rw [if_pos e, if_pos e, e]
      · rw [if_neg e, if_neg e]
/-- a WANDERER's part in the rows: eight cases -/
theorem cod (q r s : Bool) : ecf (bb false q r s) = 1 ∧ (scf 1 (bb false q r s) = (if q then 1 else 0) ∧ scf 2 (bb false q r s) = (if r then 1 else 0) ∧ scf 3 (bb false q r s) = (if s then 1 else 0)) ∧ (∀ b : Int32, b = (0 : Int32) + (if q then 1 else 0) + (if r then 1 else 0) + (if s then 1 else 0) → (acf 1 (bb false q r s) = (if q then (if b = 1 then 1 else 0) else 0) ∧ acf 2 (bb false q r s) = (if r then (if b = 1 then 1 else 0) else 0) ∧ acf 3 (bb false q r s) = (if s then (if b = 1 then 1 else 0) else 0)) ∧ (wcf 1 (bb false q r s) = (if q then 6 / b else 0) ∧ wcf 2 (bb false q r s) = (if r then 6 / b else 0) ∧ wcf 3 (bb false q r s) = (if s then 6 / b else 0))) := by
  refine ⟨?_, ?_, fun b hb => ?_⟩
  · revert q r s; decide +kernel
  · revert q r s; decide +kernel
  · subst hb
    revert q r s; decide +kernel
theorem cod0 : ecf (-1) = 0 ∧ (scf 1 (-1) = 0 ∧ scf 2 (-1) = 0 ∧ scf 3 (-1) = 0) ∧ (acf 1 (-1) = 0 ∧ acf 2 (-1) = 0 ∧ acf 3 (-1) = 0) ∧ (wcf 1 (-1) = 0 ∧ wcf 2 (-1) = 0 ∧ wcf 3 (-1) = 0) := by decide +kernel
/-- the reference's rows hold the sums of the class's codes -/
noncomputable def EV (m : Nat → Int32) (K : Nat → Nat → Int32) (v : Int32) (k : Nat) : Prop := v = sm2 (fun j => ecf (m j)) k ∧ (K 20 1 = sm2 (fun j => scf 1 (m j)) k ∧ K 20 2 = sm2 (fun j => scf 2 (m j)) k ∧ K 20 3 = sm2 (fun j => scf 3 (m j)) k) ∧ (K 21 1 = sm2 (fun j => acf 1 (m j)) k ∧ K 21 2 = sm2 (fun j => acf 2 (m j)) k ∧ K 21 3 = sm2 (fun j => acf 3 (m j)) k) ∧ (K 22 1 = sm2 (fun j => wcf 1 (m j)) k ∧ K 22 2 = sm2 (fun j => wcf 2 (m j)) k ∧ K 22 3 = sm2 (fun j => wcf 3 (m j)) k)
theorem EV.zero {m : Nat → Int32} {K : Nat → Nat → Int32} {v : Int32} {k : Nat} (h : EV m K v k) (hc : m k = -1) : EV m K v (k + 1) := by
  obtain ⟨a, ⟨b1, b2, b3⟩, ⟨c1, c2, c3⟩, d1, d2, d3⟩ := h
  obtain ⟨q, ⟨r1, r2, r3⟩, ⟨s1, s2, s3⟩, t1, t2, t3⟩ := cod0
  have e : ∀ f : Int32 → Int32, f (-1) = 0 → sm2 (fun j => f (m j)) (k + 1) = sm2 (fun j => f (m j)) k := by
    intro f hf
    show sm2 (fun j => f (m j)) k + f (m k) = _
    rw [hc, hf, z32]
  exact ⟨by rw [e ecf q]; exact a, ⟨by rw [e (scf 1) r1]; exact b1, by rw [e (scf 2) r2]; exact b2, by rw [e (scf 3) r3]; exact b3⟩, ⟨by rw [e (acf 1) s1]; exact c1, by rw [e (acf 2) s2]; exact c2, by rw [e (acf 3) s3]; exact c3⟩, by rw [e (wcf 1) t1]; exact d1, by rw [e (wcf 2) t2]; exact d2, by rw [e (wcf 3) t3]; exact d3⟩
theorem EV.add {m : Nat → Int32} {K : Nat → Nat → Int32} {v : Int32} {k : Nat} {p q r : Bool} {b : Int32} (h : EV m K v k) (hc : m k = bb false p q r) (hb : b = (0 : Int32) + (if p then 1 else 0) + (if q then 1 else 0) + (if r then 1 else 0)) : EV m (up3 (up3 (up3 K 1 p b) 2 q b) 3 r b) (v + 1) (k + 1) := by
  obtain ⟨a, ⟨b1, b2, b3⟩, ⟨c1, c2, c3⟩, d1, d2, d3⟩ := h
  obtain ⟨x, ⟨r1, r2, r3⟩, y⟩ := cod p q r
  obtain ⟨⟨s1, s2, s3⟩, t1, t2, t3⟩ := y b hb
  have e : ∀ (f : Int32 → Int32) (z w : Int32), f (bb false p q r) = z → w = sm2 (fun j => f (m j)) k → w + z = sm2 (fun j => f (m j)) (k + 1) := by
    intro f z w hf hw
    show _ = sm2 (fun j => f (m j)) k + f (m k)
    rw [hc, hf, hw]
  have u : ∀ (j t : Nat), (j = 20 ∨ j = 21 ∨ j = 22) → (t = 1 ∨ t = 2 ∨ t = 3) → up3 (up3 (up3 K 1 p b) 2 q b) 3 r b j t = K j t + (if j = 20 then (if (if t = 1 then p else if t = 2 then q else r) then 1 else 0) else if j = 21 then (if (if t = 1 then p else if t = 2 then q else r) then (if b = 1 then 1 else 0) else 0) else (if (if t = 1 then p else if t = 2 then q else r) then 6 / b else 0)) := by
    intro j t hj ht
    have v1 := up3_v (K := K) (s := 1) (p := p) (b := b) t
    have v2 := up3_v (K := up3 K 1 p b) (s := 2) (p := q) (b := b) t
    have v3 := up3_v (K := up3 (up3 K 1 p b) 2 q b) (s := 3) (p := r) (b := b) t
    rcases hj with rfl | rfl | rfl
    · rw [v3.1, v2.1, v1.1]
      rcases ht with rfl | rfl | rfl <;> simp
    · rw [v3.2.1, v2.2.1, v1.2.1]
      rcases ht with rfl | rfl | rfl <;> simp
    · rw [v3.2.2, v2.2.2, v1.2.2]
      rcases ht with rfl | rfl | rfl <;> simp
  refine ⟨e ecf 1 v x a, ⟨?_, ?_, ?_⟩, ⟨?_, ?_, ?_⟩, ?_, ?_, ?_⟩
  · rw [u 20 1 (by omega) (by omega)]; exact e (scf 1) _ _ r1 b1
  · rw [u 20 2 (by omega) (by omega)]; exact e (scf 2) _ _ r2 b2
  · rw [u 20 3 (by omega) (by omega)]; exact e (scf 3) _ _ r3 b3
  · rw [u 21 1 (by omega) (by omega)]; exact e (acf 1) _ _ s1 c1
  · rw [u 21 2 (by omega) (by omega)]; exact e (acf 2) _ _ s2 c2
  · rw [u 21 3 (by omega) (by omega)]; exact e (acf 3) _ _ s3 c3
  · rw [u 22 1 (by omega) (by omega)]; exact e (wcf 1) _ _ t1 d1
  · rw [u 22 2 (by omega) (by omega)]; exact e (wcf 2) _ _ t2 d2
  · rw [u 22 3 (by omega) (by omega)]; exact e (wcf 3) _ _ t3 d3

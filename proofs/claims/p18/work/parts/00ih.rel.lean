/-! ERRORS of both: the loops of the reference -/
theorem z145 {N : Nat} {x1 x2 x3 x4 r4 v7 y90 : Int32} {g51 : (Nat → Int32) → Int64 → (Nat → Nat → Int32) → Int32 → Option (Int32 × (Nat → Int32) × Int64 × (Nat → Nat → Int32))} {g90 : (Nat → Int32) → Int64 → (Nat → Nat → Int32) → Int32 → Int32 → Option (Int32 × (Nat → Int32) × Int64 × (Nat → Nat → Int32))} {fu : Nat} {J : Nat → Int32} {L : Int64} {K : Nat → Nat → Int32} {b s : Int32} {S : Int32 × (Nat → Int32) × Int64 × (Nat → Nat → Int32)} (h : fX12_errors_L145 N x1 x2 x3 x4 r4 v7 y90 g51 g90 fu J L K b s = some S) : ∃ f, fu = f + 1 := by
  cases fu with
  | zero => cases (show none = some S from h)
  | succ f => exact ⟨f, rfl⟩
theorem z187 {N : Nat} {x1 x2 x3 x4 r4 v7 b y90 : Int32} {g51 : (Nat → Int32) → Int64 → (Nat → Nat → Int32) → Int32 → Option (Int32 × (Nat → Int32) × Int64 × (Nat → Nat → Int32))} {g90 : (Nat → Int32) → Int64 → (Nat → Nat → Int32) → Int32 → Int32 → Option (Int32 × (Nat → Int32) × Int64 × (Nat → Nat → Int32))} {g145 : (Nat → Int32) → Int64 → (Nat → Nat → Int32) → Int32 → Int32 → Option (Int32 × (Nat → Int32) × Int64 × (Nat → Nat → Int32))} {fu : Nat} {J : Nat → Int32} {L : Int64} {K : Nat → Nat → Int32} {s : Int32} {S : Int32 × (Nat → Int32) × Int64 × (Nat → Nat → Int32)} (h : fX12_errors_L187 N x1 x2 x3 x4 r4 v7 b y90 g51 g90 g145 fu J L K s = some S) : ∃ f, fu = f + 1 := by
  cases fu with
  | zero => cases (show none = some S from h)
  | succ f => exact ⟨f, rfl⟩
/-- one WANDERER that is an ERROR -/
theorem er_in {N : Nat} {x1 x2 x3 x4 r4 v7 y90 : Int32} {g51 : (Nat → Int32) → Int64 → (Nat → Nat → Int32) → Int32 → Option (Int32 × (Nat → Int32) × Int64 × (Nat → Nat → Int32))} {g90 : (Nat → Int32) → Int64 → (Nat → Nat → Int32) → Int32 → Int32 → Option (Int32 × (Nat → Int32) × Int64 × (Nat → Nat → Int32))} {fu : Nat} {J : Nat → Int32} {L : Int64} {K : Nat → Nat → Int32} {S : Int32 × (Nat → Int32) × Int64 × (Nat → Nat → Int32)} {p1 p2 p3 : Bool} (hp : ∀ K' : Nat → Nat → Int32, (∀ j, j < 20 → K' j = K j) → (∀ q, fX12_placeOn N J L K' 1 y90 x3 = some q → decide (q / 60 = r4) = p1) ∧ (∀ q, fX12_placeOn N J L K' 2 y90 x3 = some q → decide (q / 60 = r4) = p2) ∧ (∀ q, fX12_placeOn N J L K' 3 y90 x3 = some q → decide (q / 60 = r4) = p3)) (h : fX12_errors_L145 N x1 x2 x3 x4 r4 v7 y90 g51 g90 fu J L K 0 1 = some S) : ∃ b : Int32, b = (0 : Int32) + (if p1 then 1 else 0) + (if p2 then 1 else 0) + (if p3 then 1 else 0) ∧ g90 J L (up3 (up3 (up3 K 1 p1 b) 2 p2 b) 3 p3 b) v7 (y90 + 1) = some S := by
  have cv : ∀ (q : Int32) (p : Bool), decide (q / 60 = r4) = p → (if q / 60 = r4 then (1 : Int32) else 0) = if p then 1 else 0 := by
    intro q p e
    rw [← e]
    by_cases c : q / 60 = r4
    · rw [if_pos c, decide_eq_true c, if_pos rfl]
    · rw [if_neg c, decide_eq_false c, if_neg (by decide)]
  obtain ⟨k1, k2, k3⟩ := hp K (fun _ _ => rfl)
  obtain ⟨f, e⟩ := z145 h
  rw [e] at h
  obtain ⟨q1, e1, h⟩ := l145 (s := 1) (by omega) h
  rw [cv q1 p1 (k1 q1 e1)] at h
  obtain ⟨f, e⟩ := z145 h
  rw [e] at h
  obtain ⟨q2, e2, h⟩ := l145 (s := 2) (by omega) h
  rw [cv q2 p2 (k2 q2 e2)] at h
  obtain ⟨f, e⟩ := z145 h
  rw [e] at h
  obtain ⟨q3, e3, h⟩ := l145 (s := 3) (by omega) h
  rw [cv q3 p3 (k3 q3 e3)] at h
  obtain ⟨f, e⟩ := z145 h
  rw [e, fX12_errors_L145.eq_2] at h
  have h := wb_t (by decide) h
  refine ⟨_, rfl, ?_⟩
  generalize (0 : Int32) + (if p1 then (1 : Int32) else 0) + (if p2 then (1 : Int32) else 0) + (if p3 then (1 : Int32) else 0) = b at h ⊢
  obtain ⟨f, e⟩ := z187 h
  rw [show fX12_errors_L187 N x1 x2 x3 x4 r4 v7 b y90 g51 g90 (fun q0 q1 q2 q3 q4 => fX12_errors_L145 N x1 x2 x3 x4 r4 v7 y90 g51 g90 _ q0 q1 q2 q3 q4) N J L K 1 = fX12_errors_L187 N x1 x2 x3 x4 r4 v7 b y90 g51 g90 (fun q0 q1 q2 q3 q4 => fX12_errors_L145 N x1 x2 x3 x4 r4 v7 y90 g51 g90 _ q0 q1 q2 q3 q4) (f + 1) J L K 1 from congrArg (fun z => fX12_errors_L187 N x1 x2 x3 x4 r4 v7 b y90 g51 g90 (fun q0 q1 q2 q3 q4 => fX12_errors_L145 N x1 x2 x3 x4 r4 v7 y90 g51 g90 _ q0 q1 q2 q3 q4) z J L K 1) e] at h
  obtain ⟨q1, e1, h⟩ := l187 (s := 1) (by omega) h
  rw [k1 q1 e1] at h
  obtain ⟨f, e⟩ := z187 h
  rw [e] at h
  obtain ⟨q2, e2, h⟩ := l187 (s := 2) (by omega) h
  rw [(hp _ (fun j hj => up3_o hj)).2.1 q2 e2] at h
  obtain ⟨f, e⟩ := z187 h
  rw [e] at h
  obtain ⟨q3, e3, h⟩ := l187 (s := 3) (by omega) h
  rw [(hp _ (fun j hj => (up3_o hj).trans (up3_o hj))).2.2 q3 e3] at h
  obtain ⟨f, e⟩ := z187 h
  rw [e, fX12_errors_L187.eq_2] at h
  have h := wb_t (by decide) h
  obtain ⟨w, ew, h⟩ := wb_v h
  rw [ew] at h
  exact h
/-- the rows begin at 0 -/
theorem er51 {N : Nat} {x1 x2 x3 x4 : Int32} {J : Nat → Int32} {L : Int64} {K : Nat → Nat → Int32} {S : Int32 × (Nat → Int32) × Int64 × (Nat → Nat → Int32)} (m : Nat → Int32) : ∀ (fv y : Nat) (K' : Nat → Nat → Int32), fX12_errors_L51 N x1 x2 x3 x4 fv J L K' (nI y) = some S → 1 ≤ y → y ≤ 4 → (∀ j, j < 20 → K' j = K j) → (∀ t, 1 ≤ t → t < y → K' 20 t = 0 ∧ K' 21 t = 0 ∧ K' 22 t = 0) → ∃ g51 K'', (∀ j, j < 20 → K'' j = K j) ∧ EV m K'' 0 0 ∧ fX12_errors_L90 N x1 x2 x3 x4 g51 N J L K'' 0 0 = some S := by
  have n4 : (4 : Int32).toInt = 4 := by decide
  intro fv
  induction fv with
  | zero => intro y K' h; cases (show none = some S from h)
  | succ fv ih =>
    intro y K' h y1 hy hK hz
    rw [fX12_errors_L51.eq_2] at h
    have ty : (nI y).toInt = (y : Int) := nI_toInt (by omega)
    rcases ifr h with ⟨c, h⟩ | ⟨c, h⟩
    · have c := (le32 n4 ty).mp c
      obtain ⟨a1, a2, a3⟩ := hz 1 (by omega) (by omega)
      obtain ⟨b1, b2, b3⟩ := hz 2 (by omega) (by omega)
      obtain ⟨c1, c2, c3⟩ := hz 3 (by omega) (by omega)
      exact ⟨_, K', hK, ⟨rfl, ⟨a1, b1, c1⟩, ⟨a2, b2, c2⟩, a3, b3, c3⟩, h⟩
    · have c : ¬ _ := fun z => c ((le32 n4 ty).mpr z)
      rw [nI_clamp (by omega)] at h
      obtain ⟨-, h⟩ := wb_n h
      obtain ⟨m1, e1, h⟩ := wb_v h
      obtain ⟨-, h⟩ := wb_n h
      obtain ⟨m2, e2, h⟩ := wb_v h
      obtain ⟨-, h⟩ := wb_n h
      obtain ⟨m3, e3, h⟩ := wb_v h
      obtain ⟨w, ew, h⟩ := wb_v h
      rw [ew, nI_1] at h
      refine ih (y + 1) m3 h (by omega) (by omega) (fun j hj => ?_) (fun t t1 t2 => ?_)
      · rw [e3, e2, e1]
        unfold wb_um
        rw [if_neg (by omega), if_neg (by omega), if_neg (by omega)]
        exact hK j hj
      · rw [e3, e2, e1]
        have hv : ∀ f : Nat → Int32, (t < y → f t = 0) → upd f y 0 t = 0 := by
          intro f hf
          unfold upd
          by_cases e : t = y
          · rw [if_pos e]
          · rw [if_neg e]; exact hf (by omega)
        exact ⟨hv (K' 20) (fun z => (hz t t1 z).1), hv (K' 21) (fun z => (hz t t1 z).2.1), hv (K' 22) (fun z => (hz t t1 z).2.2)⟩
/-! FOLLOWED alike -/

/-! worlds in blocks: a call that has one block, or two, of a world's cells -/
theorem wj_pm {D : va_G} {cl : List vw_C} {ws : va_W} {H : Heap} : va_P D cl ws H ↔ ∀ q ∈ ws, va_at D cl q H := by
  constructor
  · intro h q hq
    obtain ⟨i, hi⟩ := List.getElem?_of_mem hq
    exact h i q hi
  · intro h k q hk
    exact h q (List.mem_of_getElem? hk)
theorem wj_dm {A : Nat → Prop} {ws : va_W} : va_D A ws ↔ ws.Pairwise (fun p q => p.1 ≠ q.1) ∧ ∀ q ∈ ws, A q.1 := by
  constructor
  · intro h
    refine ⟨List.pairwise_iff_getElem.mpr (fun i j hi hj hij e => ?_), fun q hq => ?_⟩
    · have := h.1 i j ws[i] ws[j] (List.getElem?_eq_getElem hi) (List.getElem?_eq_getElem hj) e
      omega
    · obtain ⟨i, hi⟩ := List.getElem?_of_mem hq
      exact h.2 i q hi
  · intro h
    refine ⟨fun i j p q hp hq e => ?_, fun k q hk => h.2 q (List.mem_of_getElem? hk)⟩
    obtain ⟨hi, rfl⟩ := List.getElem?_eq_some_iff.mp hp
    obtain ⟨hj, rfl⟩ := List.getElem?_eq_some_iff.mp hq
    rcases Nat.lt_trichotomy i j with r | r | r
    · exact absurd e (List.pairwise_iff_getElem.mp h.1 i j hi hj r)
    · exact r
    · exact absurd e.symm (List.pairwise_iff_getElem.mp h.1 j i hj hi r)
theorem wj_pP {D : va_G} {cl : List vw_C} {v w : va_W} {H : Heap} (p : List.Perm v w) (h : va_P D cl v H) : va_P D cl w H := wj_pm.mpr (fun q hq => wj_pm.mp h q (p.mem_iff.mpr hq))
theorem wj_pD {A : Nat → Prop} {v w : va_W} (p : List.Perm v w) (h : va_D A v) : va_D A w := by
  obtain ⟨a, b⟩ := wj_dm.mp h
  exact wj_dm.mpr ⟨(p.pairwise_iff (fun e => Ne.symm e)).mp a, fun q hq => b q (p.mem_iff.mpr hq)⟩
theorem wj_P1 {D : va_G} {cl : List vw_C} {X Y : va_W} {H : Heap} (h : va_P D cl (X ++ Y) H) : va_P D cl X H := wj_pm.mpr (fun q hq => wj_pm.mp h q (List.mem_append_left _ hq))
theorem wj_D1 {A : Nat → Prop} {X Y : va_W} (h : va_D A (X ++ Y)) : va_D A X := by
  obtain ⟨a, b⟩ := wj_dm.mp h
  exact wj_dm.mpr ⟨(List.pairwise_append.mp a).1, fun q hq => b q (List.mem_append_left _ hq)⟩
theorem wj_m2 (X Y Z : va_W) : List.Perm (X ++ (Y ++ Z)) (Y ++ (X ++ Z)) := List.perm_append_comm_assoc X Y Z
theorem wj_m3 (X Y Z : va_W) : List.Perm (X ++ (Y ++ Z)) ((X ++ Z) ++ Y) := by
  rw [List.append_assoc]
  exact List.Perm.append_left X List.perm_append_comm
theorem wj_P2 {D : va_G} {cl : List vw_C} {X Y Z : va_W} {H : Heap} (h : va_P D cl (X ++ (Y ++ Z)) H) : va_P D cl Y H := wj_P1 (wj_pP (wj_m2 X Y Z) h)
theorem wj_D2 {A : Nat → Prop} {X Y Z : va_W} (h : va_D A (X ++ (Y ++ Z))) : va_D A Y := wj_D1 (wj_pD (wj_m2 X Y Z) h)
theorem wj_P3 {D : va_G} {cl : List vw_C} {X Y Z : va_W} {H : Heap} (h : va_P D cl (X ++ (Y ++ Z)) H) : va_P D cl (X ++ Z) H := wj_P1 (wj_pP (wj_m3 X Y Z) h)
theorem wj_D3 {A : Nat → Prop} {X Y Z : va_W} (h : va_D A (X ++ (Y ++ Z))) : va_D A (X ++ Z) := wj_D1 (wj_pD (wj_m3 X Y Z) h)
theorem wj_F {A0 : Nat → Prop} {C : va_W} {H0 H : Heap} {locs : List Loc} (hD : va_D A0 C) (hS : va_S A0 H0 H locs) (hA : ∀ q, H0.size ≤ q → A0 q) : ∀ q, va_A C H.size q → A0 q := by
  intro q h
  rcases h with ⟨k, e, h⟩ | h
  · exact hD.2 k (q, e) h
  · exact hA q (Nat.le_trans hS.1 h)
theorem wj_1 {A0 : Nat → Prop} {D : va_G} {ty : List (ClassId × FieldType)} {C R C' : va_W} {H H1 : Heap} {t : State} (hP : va_P D vwCl (C ++ R) H) (hD : va_D A0 (C ++ R)) (hk : ∀ q : Nat, q < H.size → ¬ va_A C H.size q → H1[q]? = H[q]?) (hF : ∀ q, va_A C H.size q → A0 q) (ht : t.heap = H1) (hB : wb_post D ty (va_A C H.size) C' t) : va_P D vwCl (C' ++ R) H1 ∧ va_D A0 (C' ++ R) := by
  obtain ⟨hP1, -, hD1⟩ := hB
  rw [ht] at hP1
  have p0 := wj_pm.mp hP
  have p1 := wj_pm.mp hP1
  obtain ⟨d0, e0⟩ := wj_dm.mp hD
  obtain ⟨d1, e1⟩ := wj_dm.mp hD1
  have d2 := List.pairwise_append.mp d0
  have apart : ∀ q ∈ R, q.1 < H.size ∧ ¬ va_A C H.size q.1 := by
    intro q hq
    have hl := (p0 q (List.mem_append_right _ hq)).lt
    refine ⟨hl, fun h => ?_⟩
    rcases h with ⟨k, e, h⟩ | h
    · exact d2.2.2 (q.1, e) (List.mem_of_getElem? h) q hq rfl
    · omega
  refine ⟨wj_pm.mpr (fun q hq => ?_), wj_dm.mpr ⟨List.pairwise_append.mpr ⟨d1, d2.2.1, fun a ha b hb e => ?_⟩, fun q hq => ?_⟩⟩
  · rcases List.mem_append.mp hq with h | h
    · exact p1 q h
    · exact (p0 q (List.mem_append_right _ h)).kept (hk q.1 (apart q h).1 (apart q h).2)
  · exact (apart b hb).2 (by rw [← e]; exact e1 a ha)
  · rcases List.mem_append.mp hq with h | h
    · exact hF q.1 (e1 q h)
    · exact e0 q (List.mem_append_right _ h)
theorem wj_2 {A0 : Nat → Prop} {D : va_G} {ty : List (ClassId × FieldType)} {X C Z C' : va_W} {H H1 : Heap} {t : State} (hP : va_P D vwCl (X ++ (C ++ Z)) H) (hD : va_D A0 (X ++ (C ++ Z))) (hk : ∀ q : Nat, q < H.size → ¬ va_A C H.size q → H1[q]? = H[q]?) (hF : ∀ q, va_A C H.size q → A0 q) (ht : t.heap = H1) (hB : wb_post D ty (va_A C H.size) C' t) : va_P D vwCl (X ++ (C' ++ Z)) H1 ∧ va_D A0 (X ++ (C' ++ Z)) := by
  obtain ⟨a, b⟩ := wj_1 (wj_pP (wj_m2 X C Z) hP) (wj_pD (wj_m2 X C Z) hD) hk hF ht hB
  exact ⟨wj_pP (wj_m2 C' X Z) a, wj_pD (wj_m2 C' X Z) b⟩
theorem wj_3 {A0 : Nat → Prop} {D : va_G} {ty : List (ClassId × FieldType)} {X Y Z X' Z' : va_W} {H H1 : Heap} {t : State} (hP : va_P D vwCl (X ++ (Y ++ Z)) H) (hD : va_D A0 (X ++ (Y ++ Z))) (hk : ∀ q : Nat, q < H.size → ¬ va_A (X ++ Z) H.size q → H1[q]? = H[q]?) (hF : ∀ q, va_A (X ++ Z) H.size q → A0 q) (ht : t.heap = H1) (hB : wb_post D ty (va_A (X ++ Z) H.size) (X' ++ Z') t) : va_P D vwCl (X' ++ (Y ++ Z')) H1 ∧ va_D A0 (X' ++ (Y ++ Z')) := by
  obtain ⟨a, b⟩ := wj_1 (wj_pP (wj_m3 X Y Z) hP) (wj_pD (wj_m3 X Y Z) hD) hk hF ht hB
  exact ⟨wj_pP (wj_m3 X' Y Z').symm a, wj_pD (wj_m3 X' Y Z').symm b⟩
theorem wj_nP {D : va_G} {cl : List vw_C} {X C : va_W} {H : Heap} (h : va_P D cl (X ++ (C ++ [])) H) : va_P D cl (X ++ C) H := by
  rw [List.append_nil] at h; exact h
theorem wj_nD {A : Nat → Prop} {X C : va_W} (h : va_D A (X ++ (C ++ []))) : va_D A (X ++ C) := by
  rw [List.append_nil] at h; exact h
theorem wj_aP {D : va_G} {cl : List vw_C} {X Y Z : va_W} {H : Heap} (h : va_P D cl ((X ++ Y) ++ Z) H) : va_P D cl (X ++ (Y ++ Z)) H := by
  rw [← List.append_assoc]; exact h
theorem wj_aD {A : Nat → Prop} {X Y Z : va_W} (h : va_D A ((X ++ Y) ++ Z)) : va_D A (X ++ (Y ++ Z)) := by
  rw [← List.append_assoc]; exact h
/-! one block of a world's cells, by where it begins and ends -/
theorem wj_0 {A0 : Nat → Prop} {D : va_G} {ty : List (ClassId × FieldType)} {C C' : va_W} {H H1 : Heap} {t : State} (hF : ∀ q, va_A C H.size q → A0 q) (ht : t.heap = H1) (hB : wb_post D ty (va_A C H.size) C' t) : va_P D vwCl C' H1 ∧ va_D A0 C' := by
  obtain ⟨hP1, -, hD1⟩ := hB
  rw [ht] at hP1
  obtain ⟨d1, e1⟩ := wj_dm.mp hD1
  exact ⟨hP1, wj_dm.mpr ⟨d1, fun q hq => hF q.1 (e1 q hq)⟩⟩
theorem wj_s {A0 : Nat → Prop} {D : va_G} {ty : List (ClassId × FieldType)} {ws wc w1 wf : va_W} {H H1 : Heap} {t : State} (i j : Nat) (hP : va_P D vwCl ws H) (hD : va_D A0 ws) (h1 : ws = ws.take i ++ (wc ++ ws.drop j)) (h2 : wf = ws.take i ++ (w1 ++ ws.drop j)) (hk : ∀ q : Nat, q < H.size → ¬ va_A wc H.size q → H1[q]? = H[q]?) (hF : ∀ q, va_A wc H.size q → A0 q) (ht : t.heap = H1) (hB : wb_post D ty (va_A wc H.size) w1 t) : va_P D vwCl wf H1 ∧ va_D A0 wf := by
  rw [h2]
  rw [h1] at hP hD
  exact wj_2 hP hD hk hF ht hB
theorem wj_p4 (X A Y B Z : va_W) : List.Perm (X ++ (A ++ (Y ++ (B ++ Z)))) ((A ++ B) ++ (X ++ (Y ++ Z))) := by
  have e1 : List.Perm (X ++ (A ++ (Y ++ (B ++ Z)))) (A ++ (X ++ (Y ++ (B ++ Z)))) := List.perm_append_comm_assoc _ _ _
  have e2 : List.Perm (Y ++ (B ++ Z)) (B ++ (Y ++ Z)) := List.perm_append_comm_assoc _ _ _
  have e3 : List.Perm (X ++ (B ++ (Y ++ Z))) (B ++ (X ++ (Y ++ Z))) := List.perm_append_comm_assoc _ _ _
  rw [List.append_assoc]
  exact e1.trans (List.Perm.append_left A ((List.Perm.append_left X e2).trans e3))
theorem wj_p5 (X A Y B Z : va_W) : List.Perm (X ++ (A ++ (Y ++ (B ++ Z)))) ((B ++ A) ++ (X ++ (Y ++ Z))) := (wj_p4 X A Y B Z).trans (List.Perm.append_right _ List.perm_append_comm)
/-- two blocks: a in [i, j), b in [k, n), and the call has a ++ b -/
theorem wj_ab {A0 : Nat → Prop} {D : va_G} {ty : List (ClassId × FieldType)} {ws a b a' b' wf : va_W} {H H1 : Heap} {t : State} (i j k n : Nat) (hP : va_P D vwCl ws H) (hD : va_D A0 ws) (h1 : ws = ws.take i ++ (a ++ ((ws.drop j).take k ++ (b ++ ws.drop n)))) (h2 : wf = ws.take i ++ (a' ++ ((ws.drop j).take k ++ (b' ++ ws.drop n)))) (hk : ∀ q : Nat, q < H.size → ¬ va_A (a ++ b) H.size q → H1[q]? = H[q]?) (hF : ∀ q, va_A (a ++ b) H.size q → A0 q) (ht : t.heap = H1) (hB : wb_post D ty (va_A (a ++ b) H.size) (a' ++ b') t) : va_P D vwCl wf H1 ∧ va_D A0 wf := by
  rw [h2]
  rw [h1] at hP hD
  obtain ⟨x, y⟩ := wj_1 (wj_pP (wj_p4 _ _ _ _ _) hP) (wj_pD (wj_p4 _ _ _ _ _) hD) hk hF ht hB
  exact ⟨wj_pP (wj_p4 _ _ _ _ _).symm x, wj_pD (wj_p4 _ _ _ _ _).symm y⟩
/-- the same, and the call has b ++ a -/
theorem wj_ba {A0 : Nat → Prop} {D : va_G} {ty : List (ClassId × FieldType)} {ws a b a' b' wf : va_W} {H H1 : Heap} {t : State} (i j k n : Nat) (hP : va_P D vwCl ws H) (hD : va_D A0 ws) (h1 : ws = ws.take i ++ (a ++ ((ws.drop j).take k ++ (b ++ ws.drop n)))) (h2 : wf = ws.take i ++ (a' ++ ((ws.drop j).take k ++ (b' ++ ws.drop n)))) (hk : ∀ q : Nat, q < H.size → ¬ va_A (b ++ a) H.size q → H1[q]? = H[q]?) (hF : ∀ q, va_A (b ++ a) H.size q → A0 q) (ht : t.heap = H1) (hB : wb_post D ty (va_A (b ++ a) H.size) (b' ++ a') t) : va_P D vwCl wf H1 ∧ va_D A0 wf := by
  rw [h2]
  rw [h1] at hP hD
  obtain ⟨x, y⟩ := wj_1 (wj_pP (wj_p5 _ _ _ _ _) hP) (wj_pD (wj_p5 _ _ _ _ _) hD) hk hF ht hB
  exact ⟨wj_pP (wj_p5 _ _ _ _ _).symm x, wj_pD (wj_p5 _ _ _ _ _).symm y⟩
theorem wj_p6 (X B Y C Z A W : va_W) : List.Perm (X ++ (B ++ (Y ++ (C ++ (Z ++ (A ++ W)))))) ((A ++ (B ++ C)) ++ (X ++ (Y ++ (Z ++ W)))) := by
  have e1 := wj_p4 X B Y C (Z ++ (A ++ W))
  have f1 : List.Perm (Z ++ (A ++ W)) (A ++ (Z ++ W)) := List.perm_append_comm_assoc _ _ _
  have f2 : List.Perm (Y ++ (A ++ (Z ++ W))) (A ++ (Y ++ (Z ++ W))) := List.perm_append_comm_assoc _ _ _
  have f3 : List.Perm (X ++ (A ++ (Y ++ (Z ++ W)))) (A ++ (X ++ (Y ++ (Z ++ W)))) := List.perm_append_comm_assoc _ _ _
  have f4 : List.Perm ((B ++ C) ++ (A ++ (X ++ (Y ++ (Z ++ W))))) (A ++ ((B ++ C) ++ (X ++ (Y ++ (Z ++ W))))) := List.perm_append_comm_assoc _ _ _
  have g : List.Perm (X ++ (Y ++ (Z ++ (A ++ W)))) (A ++ (X ++ (Y ++ (Z ++ W)))) := (List.Perm.append_left X ((List.Perm.append_left Y f1).trans f2)).trans f3
  rw [List.append_assoc A (B ++ C)]
  exact e1.trans ((List.Perm.append_left (B ++ C) g).trans f4)
/-- three blocks: b, c, a in the world; the call has a ++ (b ++ c) -/
theorem wj_bca {A0 : Nat → Prop} {D : va_G} {ty : List (ClassId × FieldType)} {ws a b c a' b' c' wf : va_W} {H H1 : Heap} {t : State} (i j k n o q : Nat) (hP : va_P D vwCl ws H) (hD : va_D A0 ws) (h1 : ws = ws.take i ++ (b ++ ((ws.drop j).take k ++ (c ++ ((ws.drop n).take o ++ (a ++ ws.drop q)))))) (h2 : wf = ws.take i ++ (b' ++ ((ws.drop j).take k ++ (c' ++ ((ws.drop n).take o ++ (a' ++ ws.drop q)))))) (hk : ∀ q : Nat, q < H.size → ¬ va_A (a ++ (b ++ c)) H.size q → H1[q]? = H[q]?) (hF : ∀ q, va_A (a ++ (b ++ c)) H.size q → A0 q) (ht : t.heap = H1) (hB : wb_post D ty (va_A (a ++ (b ++ c)) H.size) (a' ++ (b' ++ c')) t) : va_P D vwCl wf H1 ∧ va_D A0 wf := by
  rw [h2]
  rw [h1] at hP hD
  obtain ⟨x, y⟩ := wj_1 (wj_pP (wj_p6 _ _ _ _ _ _ _) hP) (wj_pD (wj_p6 _ _ _ _ _ _ _) hD) hk hF ht hB
  exact ⟨wj_pP (wj_p6 _ _ _ _ _ _ _).symm x, wj_pD (wj_p6 _ _ _ _ _ _ _).symm y⟩

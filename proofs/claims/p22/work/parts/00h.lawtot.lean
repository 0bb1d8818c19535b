theorem lx {y j : Int32} {L : Nat} (n : Int) (hj : j.toInt = n) (h0 : 0 ≤ n) (h5 : n ≤ 5) (hy : 0 ≤ y.toInt ∧ y.toInt + 6 ≤ (L : Int)) (hL : L ≤ 3072) : 0 ≤ (y + j).toInt ∧ (y + j).toInt < (L : Int) := by
  have t := ia_add y j (by omega) (by omega)
  omega
theorem tl_house {N : Nat} (hN : 3000000000 ≤ N) (I0 : Nat → Int32) (M0 : Nat → Nat → Int32) (x1 : Int32) (o2 : Nat → Int64) (k0 : KX11 I0 M0) : wq (fL_house N I0 M0 x1 o2) (fun r => KX11 r.2.1 r.2.2.1) := by
  unfold fL_house
  obtain ⟨r, e, h⟩ := tt_fX11_house hN I0 M0 x1 k0
  rw [e]
  cases r with
  | inl k =>
    have h : qE 2 k := h
    unfold qE at h
    have h : k = 2 := by omega
    subst h
    exact ⟨_, rfl, k0⟩
  | inr r =>
    exact ⟨_, rfl, h.1⟩
theorem tl_wheel {N : Nat} (hN : 3000000000 ≤ N) (I0 : Nat → Int32) (M0 : Nat → Nat → Int32) (x1 : Int32) (x2 : Int32) (x3 : Int32) (o4 : Nat → Int64) (k0 : KX11 I0 M0) : wq (fL_wheel N I0 M0 x1 x2 x3 o4) (fun r => KX11 r.2.1 r.2.2.1) := by
  unfold fL_wheel
  obtain ⟨r, e, h⟩ := tt_fX11_wheel hN I0 M0 x1 x2 x3 k0
  rw [e]
  cases r with
  | inl k =>
    have h : qE 3 k := h
    unfold qE at h
    have h : k = 1 ∨ k = 2 := by omega
    rcases h with h | h
    · subst h; exact ⟨_, rfl, k0⟩
    · subst h; exact ⟨_, rfl, k0⟩
  | inr r =>
    exact ⟨_, rfl, h.1⟩
theorem tl_count {N : Nat} (hN : 3000000000 ≤ N) (I0 : Nat → Int32) (M0 : Nat → Nat → Int32) (x1 : Int32) (o2 : Nat → Int64) (k0 : KX11 I0 M0) : wq (fL_count N I0 M0 x1 o2) (fun r => KX11 r.2.1 r.2.2.1) := by
  unfold fL_count
  obtain ⟨r, e, h⟩ := tt_fX11_count hN I0 M0 x1 k0
  rw [e]
  cases r with
  | inl k =>
    have h : qE 1 k := h
    unfold qE at h
    have h : k = 1 := by omega
    subst h
    exact ⟨_, rfl, k0⟩
  | inr r =>
    exact ⟨_, rfl, h.1⟩
theorem tl_place {N : Nat} (hN : 3000000000 ≤ N) (I0 : Nat → Int32) (M0 : Nat → Nat → Int32) (x1 : Int32) (x2 : Int32) (x3 : Int32) (o4 : Nat → Int64) (k0 : KX11 I0 M0) : wq (fL_place N I0 M0 x1 x2 x3 o4) (fun r => KX11 r.2.1 r.2.2.1) := by
  unfold fL_place
  obtain ⟨r, e, h⟩ := tt_fX11_place hN I0 M0 x1 x2 x3 k0
  rw [e]
  cases r with
  | inl k =>
    have h : qE 1 k := h
    unfold qE at h
    have h : k = 1 := by omega
    subst h
    exact ⟨_, rfl, k0⟩
  | inr r =>
    exact ⟨_, rfl, k0⟩
theorem tl_entry {N : Nat} (hN : 3000000000 ≤ N) (I0 : Nat → Int32) (M0 : Nat → Nat → Int32) (x1 : Int32) (x2 : Int32) (x3 : Int32) (o4 : Nat → Int64) (k0 : KX11 I0 M0) : wq (fL_entry N I0 M0 x1 x2 x3 o4) (fun r => KX11 r.2.1 r.2.2.1) := by
  unfold fL_entry
  obtain ⟨r, e, h⟩ := tt_fX11_entry hN I0 M0 x1 x2 x3 k0
  rw [e]
  cases r with
  | inl k =>
    have h : qE 1 k := h
    unfold qE at h
    have h : k = 1 := by omega
    subst h
    exact ⟨_, rfl, k0⟩
  | inr r =>
    exact ⟨_, rfl, k0⟩
theorem tl_cost {N : Nat} (hN : 3000000000 ≤ N) (I0 : Nat → Int32) (M0 : Nat → Nat → Int32) (x1 : Int32) (x2 : Int32) (x3 : Int32) (x4 : Int32) (o5 : Nat → Int64) (k0 : KX11 I0 M0) : wq (fL_cost N I0 M0 x1 x2 x3 x4 o5) (fun r => KX11 r.2.1 r.2.2.1) := by
  unfold fL_cost
  obtain ⟨r, e, h⟩ := tt_fX11_cost hN I0 M0 x1 x2 x3 x4 k0
  rw [e]
  cases r with
  | inl k =>
    have h : qE 1 k := h
    unfold qE at h
    have h : k = 1 := by omega
    subst h
    exact ⟨_, rfl, k0⟩
  | inr r =>
    exact ⟨_, rfl, k0⟩
theorem tl_best {N : Nat} (hN : 3000000000 ≤ N) (I0 : Nat → Int32) (M0 : Nat → Nat → Int32) (x1 : Int32) (x2 : Int32) (x3 : Int32) (x4 : Int32) (x5 : Int32) (o6 : Nat → Int64) (k0 : KX11 I0 M0) : wq (fL_best N I0 M0 x1 x2 x3 x4 x5 o6) (fun r => KX11 r.2.1 r.2.2.1) := by
  unfold fL_best
  obtain ⟨r, e, h⟩ := tt_fX11_best hN I0 M0 x1 x2 x3 x4 x5 k0
  rw [e]
  cases r with
  | inl k =>
    have h : qE 3 k := h
    unfold qE at h
    have h : k = 1 ∨ k = 2 := by omega
    rcases h with h | h
    · subst h; exact ⟨_, rfl, k0⟩
    · subst h; exact ⟨_, rfl, k0⟩
  | inr r =>
    exact ⟨_, rfl, h.1⟩
theorem tl_day {N : Nat} (hN : 3000000000 ≤ N) (I0 : Nat → Int32) (M0 : Nat → Nat → Int32) (x1 : Int32) (o2 : Nat → Int64) (k0 : KX11 I0 M0) : wq (fL_day N I0 M0 x1 o2) (fun r => KX11 r.2.1 r.2.2.1) := by
  unfold fL_day
  obtain ⟨r, e, h⟩ := tt_fX11_day hN I0 M0 x1 k0
  rw [e]
  cases r with
  | inl k =>
    have h : qE 1 k := h
    unfold qE at h
    have h : k = 1 := by omega
    subst h
    exact ⟨_, rfl, k0⟩
  | inr r =>
    exact ⟨_, rfl, k0⟩
theorem tl_whose {N : Nat} (hN : 3000000000 ≤ N) (I0 : Nat → Int32) (M0 : Nat → Nat → Int32) (x1 : Int32) (x2 : Int32) (x3 : Int32) (x4 : Int32) (x5 : Int32) (o6 : Nat → Int64) (k0 : KX11 I0 M0) : wq (fL_whose N I0 M0 x1 x2 x3 x4 x5 o6) (fun r => KX11 r.2.1 r.2.2.1) := by
  unfold fL_whose
  obtain ⟨r, e, h⟩ := tt_fX11_whose hN I0 M0 x1 x2 x3 x4 x5 k0
  rw [e]
  cases r with
  | inl k =>
    have h : qE 3 k := h
    unfold qE at h
    have h : k = 1 ∨ k = 2 := by omega
    rcases h with h | h
    · subst h; exact ⟨_, rfl, k0⟩
    · subst h; exact ⟨_, rfl, k0⟩
  | inr r =>
    exact ⟨_, rfl, h.1⟩
theorem tl_mixed {N : Nat} (hN : 3000000000 ≤ N) (I0 : Nat → Int32) (M0 : Nat → Nat → Int32) (x1 : Int32) (x2 : Int32) (x3 : Int32) (x4 : Int32) (o5 : Nat → Int64) (k0 : KX11 I0 M0) : wq (fL_mixed N I0 M0 x1 x2 x3 x4 o5) (fun r => KX11 r.2.1 r.2.2.1) := by
  unfold fL_mixed
  obtain ⟨r, e, h⟩ := tt_fX11_mixed hN I0 M0 x1 x2 x3 x4 k0
  rw [e]
  cases r with
  | inl k =>
    have h : qE 3 k := h
    unfold qE at h
    have h : k = 1 ∨ k = 2 := by omega
    rcases h with h | h
    · subst h; exact ⟨_, rfl, k0⟩
    · subst h; exact ⟨_, rfl, k0⟩
  | inr r =>
    exact ⟨_, rfl, k0⟩
theorem tl_climb {N : Nat} (hN : 3000000000 ≤ N) (I0 : Nat → Int32) (M0 : Nat → Nat → Int32) (x1 : Int32) (x2 : Int32) (o3 : Nat → Int64) (k0 : KX11 I0 M0) : wq (fL_climb N I0 M0 x1 x2 o3) (fun r => KX11 r.2.1 r.2.2.1) := by
  unfold fL_climb
  obtain ⟨r, e, h⟩ := tt_fX11_climb hN I0 M0 x1 x2 k0
  rw [e]
  cases r with
  | inl k =>
    have h : qE 1 k := h
    unfold qE at h
    have h : k = 1 := by omega
    subst h
    exact ⟨_, rfl, k0⟩
  | inr r =>
    exact ⟨_, rfl, k0⟩
theorem tl_rise {N : Nat} (hN : 3000000000 ≤ N) (I0 : Nat → Int32) (M0 : Nat → Nat → Int32) (x1 : Int32) (x2 : Int32) (x3 : Int32) (o4 : Nat → Int64) (k0 : KX11 I0 M0) : wq (fL_rise N I0 M0 x1 x2 x3 o4) (fun r => KX11 r.2.1 r.2.2.1) := by
  unfold fL_rise
  obtain ⟨r, e, h⟩ := tt_fX11_rise hN I0 M0 x1 x2 x3 k0
  rw [e]
  cases r with
  | inl k =>
    have h : qE 1 k := h
    unfold qE at h
    have h : k = 1 := by omega
    subst h
    exact ⟨_, rfl, k0⟩
  | inr r =>
    exact ⟨_, rfl, k0⟩
theorem tl_middle {N : Nat} (hN : 3000000000 ≤ N) (I0 : Nat → Int32) (M0 : Nat → Nat → Int32) (x1 : Int32) (x2 : Int32) (o3 : Nat → Int64) (k0 : KX11 I0 M0) : wq (fL_middle N I0 M0 x1 x2 o3) (fun r => KX11 r.2.1 r.2.2.1) := by
  unfold fL_middle
  obtain ⟨r, e, h⟩ := tt_fX11_middle hN I0 M0 x1 x2 k0
  rw [e]
  cases r with
  | inl k =>
    have h : qE 1 k := h
    unfold qE at h
    have h : k = 1 := by omega
    subst h
    exact ⟨_, rfl, k0⟩
  | inr r =>
    exact ⟨_, rfl, k0⟩
theorem tl_hour {N : Nat} (hN : 3000000000 ≤ N) (I0 : Nat → Int32) (M0 : Nat → Nat → Int32) (x1 : Int32) (x2 : Int32) (x3 : Int32) (o4 : Nat → Int64) (k0 : KX11 I0 M0) : wq (fL_hour N I0 M0 x1 x2 x3 o4) (fun r => KX11 r.2.1 r.2.2.1) := by
  unfold fL_hour
  obtain ⟨r, e, h⟩ := tt_fX11_hour hN I0 M0 x1 x2 x3 k0
  rw [e]
  cases r with
  | inl k =>
    have h : qE 1 k := h
    unfold qE at h
    have h : k = 1 := by omega
    subst h
    exact ⟨_, rfl, k0⟩
  | inr r =>
    exact ⟨_, rfl, k0⟩
theorem tl_houseOf {N : Nat} (hN : 3000000000 ≤ N) (I0 : Nat → Int32) (M0 : Nat → Nat → Int32) (x1 : Int32) (x2 : Int32) (x3 : Int32) (x4 : Int32) (o5 : Nat → Int64) (k0 : KX11 I0 M0) : wq (fL_houseOf N I0 M0 x1 x2 x3 x4 o5) (fun r => KX11 r.2.1 r.2.2.1) := by
  unfold fL_houseOf
  obtain ⟨r, e, h⟩ := tt_fX11_houseOf hN I0 M0 x1 x2 x3 x4 k0
  rw [e]
  cases r with
  | inl k =>
    have h : qE 1 k := h
    unfold qE at h
    have h : k = 1 := by omega
    subst h
    exact ⟨_, rfl, k0⟩
  | inr r =>
    exact ⟨_, rfl, k0⟩
theorem tl_agree {N : Nat} (hN : 3000000000 ≤ N) (I0 : Nat → Int32) (M0 : Nat → Nat → Int32) (x1 : Int32) (x2 : Int32) (x3 : Int32) (x4 : Int32) (o5 : Nat → Int64) (k0 : KX11 I0 M0) : wq (fL_agree N I0 M0 x1 x2 x3 x4 o5) (fun r => KX11 r.2.1 r.2.2.1) := by
  unfold fL_agree
  obtain ⟨r, e, h⟩ := tt_fX11_agree hN I0 M0 x1 x2 x3 x4 k0
  rw [e]
  cases r with
  | inl k =>
    have h : qE 1 k := h
    unfold qE at h
    have h : k = 1 := by omega
    subst h
    exact ⟨_, rfl, k0⟩
  | inr r =>
    exact ⟨_, rfl, k0⟩
theorem tl_lot {N : Nat} (hN : 3000000000 ≤ N) (I0 : Nat → Int32) (M0 : Nat → Nat → Int32) (x1 : Int32) (x2 : Int32) (x3 : Int32) (o4 : Nat → Int64) (k0 : KX11 I0 M0) : wq (fL_lot N I0 M0 x1 x2 x3 o4) (fun r => KX11 r.2.1 r.2.2.1) := by
  unfold fL_lot
  obtain ⟨r, e, h⟩ := tt_fX11_lot hN I0 M0 x1 x2 x3 k0
  rw [e]
  cases r with
  | inl k =>
    have h : qE 1 k := h
    unfold qE at h
    have h : k = 1 := by omega
    subst h
    exact ⟨_, rfl, k0⟩
  | inr r =>
    exact ⟨_, rfl, k0⟩
theorem tl_price {N : Nat} (hN : 3000000000 ≤ N) (I0 : Nat → Int32) (M0 : Nat → Nat → Int32) (x1 : Int32) (x2 : Int32) (o3 : Nat → Int64) (k0 : KX11 I0 M0) : wq (fL_price N I0 M0 x1 x2 o3) (fun r => KX11 r.2.1 r.2.2.1) := by
  unfold fL_price
  obtain ⟨r, e, h⟩ := tt_fX11_price hN I0 M0 x1 x2 k0
  rw [e]
  cases r with
  | inl k =>
    have h : qE 1 k := h
    unfold qE at h
    have h : k = 1 := by omega
    subst h
    exact ⟨_, rfl, k0⟩
  | inr r =>
    exact ⟨_, rfl, k0⟩
theorem tl_seek {N : Nat} (hN : 3000000000 ≤ N) (I0 : Nat → Int32) (M0 : Nat → Nat → Int32) (x1 : Int32) (x2 : Int32) (x3 : Int32) (x4 : Int32) (k0 : KX11 I0 M0) : wq (fL_seek N I0 M0 x1 x2 x3 x4) (fun r => KX11 r.2.1 r.2.2) := by
  unfold fL_seek
  obtain ⟨r, e, h⟩ := tt_fX11_seek hN I0 M0 x1 x2 x3 x4 k0
  rw [e]
  cases r with
  | inl k =>
    have h : qE 1 k := h
    unfold qE at h
    have h : k = 1 := by omega
    subst h
    exact ⟨_, rfl, k0⟩
  | inr r =>
    exact ⟨_, rfl, h.1⟩
theorem tl_on {N : Nat} (hN : 3000000000 ≤ N) (I0 : Nat → Int32) (M0 : Nat → Nat → Int32) (x1 : Int32) (o2 : Nat → Int64) (k0 : KX11 I0 M0) : wq (fL_on N I0 M0 x1 o2) (fun r => KX11 r.2.1 r.2.2.1) := by
  unfold fL_on
  obtain ⟨r, e, h⟩ := tt_fX11_on hN I0 M0 x1 k0
  rw [e]
  cases r with
  | inl k =>
    have h : qE 3 k := h
    unfold qE at h
    have h : k = 1 ∨ k = 2 := by omega
    rcases h with h | h
    · subst h; exact ⟨_, rfl, k0⟩
    · subst h; exact ⟨_, rfl, k0⟩
  | inr r =>
    exact ⟨_, rfl, h.1⟩
theorem tl_held {N : Nat} (hN : 3000000000 ≤ N) (I0 : Nat → Int32) (M0 : Nat → Nat → Int32) (x1 : Int32) (o2 : Nat → Int64) (k0 : KX11 I0 M0) : wq (fL_held N I0 M0 x1 o2) (fun r => KX11 r.2.1 r.2.2.1) := by
  unfold fL_held
  obtain ⟨r, e, h⟩ := tt_fX11_held hN I0 M0 x1 k0
  rw [e]
  cases r with
  | inl k =>
    have h : qE 1 k := h
    unfold qE at h
    have h : k = 1 := by omega
    subst h
    exact ⟨_, rfl, k0⟩
  | inr r =>
    exact ⟨_, rfl, k0⟩
theorem tl_misread {N : Nat} (hN : 3000000000 ≤ N) (I0 : Nat → Int32) (M0 : Nat → Nat → Int32) (x1 : Int32) (x2 : Int32) (x3 : Int32) (x4 : Int32) (x5 : Int32) (o6 : Nat → Int64) (k0 : KX11 I0 M0) : wq (fL_misread N I0 M0 x1 x2 x3 x4 x5 o6) (fun r => KX11 r.2.1 r.2.2.1) := by
  unfold fL_misread
  obtain ⟨r, e, h⟩ := tt_fX11_misread hN I0 M0 x1 x2 x3 x4 x5 k0
  rw [e]
  cases r with
  | inl k =>
    have h : qE 1 k := h
    unfold qE at h
    have h : k = 1 := by omega
    subst h
    exact ⟨_, rfl, k0⟩
  | inr r =>
    exact ⟨_, rfl, k0⟩
theorem tl_errors {N : Nat} (hN : 3000000000 ≤ N) (I0 : Nat → Int32) (M0 : Nat → Nat → Int32) (x1 : Int32) (x2 : Int32) (x3 : Int32) (x4 : Int32) (o5 : Nat → Int64) (k0 : KX11 I0 M0) : wq (fL_errors N I0 M0 x1 x2 x3 x4 o5) (fun r => KX11 r.2.1 r.2.2.1) := by
  unfold fL_errors
  obtain ⟨r, e, h⟩ := tt_fX11_errors hN I0 M0 x1 x2 x3 x4 k0
  rw [e]
  cases r with
  | inl k =>
    have h : qE 1 k := h
    unfold qE at h
    have h : k = 1 := by omega
    subst h
    exact ⟨_, rfl, k0⟩
  | inr r =>
    exact ⟨_, rfl, h.1⟩
theorem tl_possible {N : Nat} (hN : 3000000000 ≤ N) (I0 : Nat → Int32) (M0 : Nat → Nat → Int32) (x1 : Int32) (x2 : Int32) (x3 : Int32) (o4 : Nat → Int64) (k0 : KX11 I0 M0) : wq (fL_possible N I0 M0 x1 x2 x3 o4) (fun r => KX11 r.2.1 r.2.2.1) := by
  unfold fL_possible
  obtain ⟨r, e, h⟩ := tt_fX11_possible hN I0 M0 x1 x2 x3 k0
  rw [e]
  cases r with
  | inl k =>
    have h : qE 1 k := h
    unfold qE at h
    have h : k = 1 := by omega
    subst h
    exact ⟨_, rfl, k0⟩
  | inr r =>
    exact ⟨_, rfl, k0⟩
theorem tl_slips {N : Nat} (hN : 3000000000 ≤ N) (I0 : Nat → Int32) (M0 : Nat → Nat → Int32) (x1 : Int32) (x2 : Int32) (o3 : Nat → Int64) (k0 : KX11 I0 M0) : wq (fL_slips N I0 M0 x1 x2 o3) (fun r => KX11 r.2.1 r.2.2.1) := by
  unfold fL_slips
  obtain ⟨r, e, h⟩ := tt_fX11_slips hN I0 M0 x1 x2 k0
  rw [e]
  cases r with
  | inl k =>
    have h : qE 1 k := h
    unfold qE at h
    have h : k = 1 := by omega
    subst h
    exact ⟨_, rfl, k0⟩
  | inr r =>
    exact ⟨_, rfl, k0⟩
theorem tl_handed {N : Nat} (hN : 3000000000 ≤ N) (I0 : Nat → Int32) (M0 : Nat → Nat → Int32) (x1 : Int32) (x2 : Int32) (x3 : Int32) (o4 : Nat → Int64) (k0 : KX11 I0 M0) : wq (fL_handed N I0 M0 x1 x2 x3 o4) (fun r => KX11 r.2.1 r.2.2.1) := by
  unfold fL_handed
  obtain ⟨r, e, h⟩ := tt_fX11_handed hN I0 M0 x1 x2 x3 k0
  rw [e]
  cases r with
  | inl k =>
    have h : qE 1 k := h
    unfold qE at h
    have h : k = 1 := by omega
    subst h
    exact ⟨_, rfl, k0⟩
  | inr r =>
    exact ⟨_, rfl, k0⟩
theorem tl_leaf {N : Nat} (hN : 3000000000 ≤ N) (I0 : Nat → Int32) (M0 : Nat → Nat → Int32) (x1 : Int32) (x2 : Int32) (o3 : Nat → Int64) (k0 : KX11 I0 M0) : wq (fL_leaf N I0 M0 x1 x2 o3) (fun r => KX11 r.2.1 r.2.2.1) := by
  unfold fL_leaf
  obtain ⟨r, e, h⟩ := tt_fX11_leaf hN I0 M0 x1 x2 k0
  rw [e]
  cases r with
  | inl k =>
    have h : qE 1 k := h
    unfold qE at h
    have h : k = 1 := by omega
    subst h
    exact ⟨_, rfl, k0⟩
  | inr r =>
    exact ⟨_, rfl, h.2.1⟩
theorem tl_order {N : Nat} (hN : 3000000000 ≤ N) (I0 : Nat → Int32) (M0 : Nat → Nat → Int32) (x1 : Int32) (x2 : Int32) (x3 : Int32) (o4 : Nat → Int64) (k0 : KX11 I0 M0) : wq (fL_order N I0 M0 x1 x2 x3 o4) (fun r => KX11 r.2.1 r.2.2.1) := by
  unfold fL_order
  obtain ⟨r, e, h⟩ := tt_fX11_order hN I0 M0 x1 x2 x3 k0
  rw [e]
  cases r with
  | inl k =>
    have h : qE 1 k := h
    unfold qE at h
    have h : k = 1 := by omega
    subst h
    exact ⟨_, rfl, k0⟩
  | inr r =>
    exact ⟨_, rfl, h.1⟩
theorem tl_same {N : Nat} (hN : 3000000000 ≤ N) (I0 : Nat → Int32) (M0 : Nat → Nat → Int32) (x1 : Int32) (x2 : Int32) (x3 : Int32) (o4 : Nat → Int64) (k0 : KX11 I0 M0) : wq (fL_same N I0 M0 x1 x2 x3 o4) (fun r => KX11 r.2.1 r.2.2.1) := by
  unfold fL_same
  obtain ⟨r, e, h⟩ := tt_fX11_same hN I0 M0 x1 x2 x3 k0
  rw [e]
  cases r with
  | inl k =>
    have h : qE 1 k := h
    unfold qE at h
    have h : k = 1 := by omega
    subst h
    exact ⟨_, rfl, k0⟩
  | inr r =>
    show wq (if _ then _ else _) _
    exact wq_i (fun _ => ⟨_, rfl, k0⟩) (fun _ => ⟨_, rfl, k0⟩)
theorem tl_births {N : Nat} (hN : 3000000000 ≤ N) (I0 : Nat → Int32) (M0 : Nat → Nat → Int32) (x1 : Int32) (x2 : Int32) (o3 : Nat → Int64) (k0 : KX11 I0 M0) : wq (fL_births N I0 M0 x1 x2 o3) (fun r => KX11 r.2.1 r.2.2.1) := by
  unfold fL_births
  obtain ⟨r, e, h⟩ := tt_fX11_births hN I0 M0 x1 x2 k0
  rw [e]
  cases r with
  | inl k =>
    have h : qE 1 k := h
    unfold qE at h
    have h : k = 1 := by omega
    subst h
    exact ⟨_, rfl, k0⟩
  | inr r =>
    exact ⟨_, rfl, h.1⟩
theorem tl_whence {N : Nat} (hN : 3000000000 ≤ N) (I0 : Nat → Int32) (M0 : Nat → Nat → Int32) (x1 : Int32) (o2 : Nat → Int64) (k0 : KX11 I0 M0) : wq (fL_whence N I0 M0 x1 o2) (fun r => KX11 r.2.1 r.2.2.1) := by
  unfold fL_whence
  obtain ⟨r, e, h⟩ := tt_fX11_whence hN I0 M0 x1 k0
  rw [e]
  cases r with
  | inl k =>
    have h : qE 1 k := h
    unfold qE at h
    have h : k = 1 := by omega
    subst h
    exact ⟨_, rfl, k0⟩
  | inr r =>
    exact ⟨_, rfl, k0⟩
theorem tl_life {N : Nat} (hN : 3000000000 ≤ N) (I0 : Nat → Int32) (M0 : Nat → Nat → Int32) (x1 : Int32) (x2 : Int32) (x3 : Int32) (o4 : Nat → Int64) (k0 : KX11 I0 M0) : wq (fL_life N I0 M0 x1 x2 x3 o4) (fun r => KX11 r.2.1 r.2.2.1) := by
  unfold fL_life
  obtain ⟨r, e, h⟩ := tt_fX11_life hN I0 M0 x1 x2 x3 k0
  rw [e]
  cases r with
  | inl k =>
    have h : qE 1 k := h
    unfold qE at h
    have h : k = 1 := by omega
    subst h
    exact ⟨_, rfl, k0⟩
  | inr r =>
    show wq (if _ then _ else _) _
    exact wq_i (fun _ => ⟨_, rfl, h.2.1⟩) (fun _ => ⟨_, rfl, h.2.1⟩)
theorem tl_fate {N : Nat} (hN : 3000000000 ≤ N) (I0 : Nat → Int32) (M0 : Nat → Nat → Int32) (x1 : Int32) (x2 : Int32) (o3 : Nat → Int64) (k0 : KX11 I0 M0) : wq (fL_fate N I0 M0 x1 x2 o3) (fun r => KX11 r.2.1 r.2.2.1) := by
  unfold fL_fate
  obtain ⟨r, e, h⟩ := tt_fX11_fate hN I0 M0 x1 x2 k0
  rw [e]
  cases r with
  | inl k =>
    have h : qE 1 k := h
    unfold qE at h
    have h : k = 1 := by omega
    subst h
    exact ⟨_, rfl, k0⟩
  | inr r =>
    show wq (if _ then _ else _) _
    exact wq_i (fun _ => ⟨_, rfl, h.2.1⟩) (fun _ => ⟨_, rfl, h.2.1⟩)
theorem tl_fates {N : Nat} (hN : 3000000000 ≤ N) (I0 : Nat → Int32) (M0 : Nat → Nat → Int32) (x1 : Int32) (o2 : Nat → Int64) (k0 : KX11 I0 M0) : wq (fL_fates N I0 M0 x1 o2) (fun r => KX11 r.2.1 r.2.2.1) := by
  unfold fL_fates
  obtain ⟨r, e, h⟩ := tt_fX11_fates hN I0 M0 x1 k0
  rw [e]
  cases r with
  | inl k =>
    have h : qE 1 k := h
    unfold qE at h
    have h : k = 1 := by omega
    subst h
    exact ⟨_, rfl, k0⟩
  | inr r =>
    exact ⟨_, rfl, h.1⟩
theorem tl_hits {N : Nat} (hN : 3000000000 ≤ N) (I0 : Nat → Int32) (M0 : Nat → Nat → Int32) (x1 : Int32) (x2 : Int32) (o3 : Nat → Int64) (k0 : KX11 I0 M0) : wq (fL_hits N I0 M0 x1 x2 o3) (fun r => KX11 r.2.1 r.2.2.1) := by
  unfold fL_hits
  obtain ⟨r, e, h⟩ := tt_fX11_hits hN I0 M0 x1 x2 k0
  rw [e]
  cases r with
  | inl k =>
    have h : qE 1 k := h
    unfold qE at h
    have h : k = 1 := by omega
    subst h
    exact ⟨_, rfl, k0⟩
  | inr r =>
    exact ⟨_, rfl, h.1⟩
theorem tl_case0 {N L : Nat} (hN : 3000000000 ≤ N) (hL : L ≤ 3072) (xs : Nat → Int32) (I0 : Nat → Int32) (M0 : Nat → Nat → Int32) (I1 : Nat → Int32) (L1 : Int64) (M1 : Nat → Nat → Int32) (o2 : Nat → Int64) (y4 : Int32) (hy : 0 ≤ y4.toInt ∧ y4.toInt + 6 ≤ (L : Int)) (k0 : KX11 I0 M0) (k1 : KX12 I1 M1) : wq (fL_case0 N L xs I0 M0 I1 L1 M1 o2 y4) (fun R => KX11 R.1 R.2.1 ∧ KX12 R.2.2.1 R.2.2.2.2.1) := by
  unfold fL_case0
  have i1 := lx (y := y4) (j := (1 : Int32)) 1 (by decide) (by decide) (by decide) hy hL
  have i2 := lx (y := y4) (j := (2 : Int32)) 2 (by decide) (by decide) (by decide) hy hL
  have i3 := lx (y := y4) (j := (3 : Int32)) 3 (by decide) (by decide) (by decide) hy hL
  have i4 := lx (y := y4) (j := (4 : Int32)) 4 (by decide) (by decide) (by decide) hy hL
  have i5 := lx (y := y4) (j := (5 : Int32)) 5 (by decide) (by decide) (by decide) hy hL
  refine wq_in i1 ?_
  refine wq_in i2 ?_
  refine wq_in i3 ?_
  refine wq_in i4 ?_
  refine wq_in i5 ?_
  refine wq_b (tt_fX11_feed hN _ _ _ _ _ _ _ k0) (fun r1 h_r1 => ?_)
  refine wq_in i1 ?_
  refine wq_in i2 ?_
  refine wq_in i3 ?_
  refine wq_in i4 ?_
  refine wq_in i5 ?_
  refine wq_b (tt_fX12_feed hN _ _ _ _ _ _ _ _ k1) (fun r2 h_r2 => ?_)
  exact wq_s ⟨h_r1.2.1, h_r2.2.1⟩
theorem tl_case1 {N L : Nat} (hN : 3000000000 ≤ N) (hL : L ≤ 3072) (xs : Nat → Int32) (I0 : Nat → Int32) (M0 : Nat → Nat → Int32) (I1 : Nat → Int32) (L1 : Int64) (M1 : Nat → Nat → Int32) (o2 : Nat → Int64) (y4 : Int32) (hy : 0 ≤ y4.toInt ∧ y4.toInt + 6 ≤ (L : Int)) (k0 : KX11 I0 M0) (k1 : KX12 I1 M1) : wq (fL_case1 N L xs I0 M0 I1 L1 M1 o2 y4) (fun R => KX11 R.1 R.2.1 ∧ KX12 R.2.2.1 R.2.2.2.2.1) := by
  unfold fL_case1
  have i1 := lx (y := y4) (j := (1 : Int32)) 1 (by decide) (by decide) (by decide) hy hL
  have i2 := lx (y := y4) (j := (2 : Int32)) 2 (by decide) (by decide) (by decide) hy hL
  have i3 := lx (y := y4) (j := (3 : Int32)) 3 (by decide) (by decide) (by decide) hy hL
  have i4 := lx (y := y4) (j := (4 : Int32)) 4 (by decide) (by decide) (by decide) hy hL
  have i5 := lx (y := y4) (j := (5 : Int32)) 5 (by decide) (by decide) (by decide) hy hL
  refine wq_in i1 ?_
  refine wq_b (tl_house hN _ _ _ _ k0) (fun r1 h_r1 => ?_)
  refine wq_v (fun v2 e_v2 => ?_)
  refine wq_in i1 ?_
  refine wq_b (tt_fX12_house hN _ _ _ _ k1) (fun r3 h_r3 => ?_)
  refine wq_v (fun v4 e_v4 => ?_)
  exact wq_s ⟨h_r1, h_r3.1⟩
theorem tl_case2 {N L : Nat} (hN : 3000000000 ≤ N) (hL : L ≤ 3072) (xs : Nat → Int32) (I0 : Nat → Int32) (M0 : Nat → Nat → Int32) (I1 : Nat → Int32) (L1 : Int64) (M1 : Nat → Nat → Int32) (o2 : Nat → Int64) (y4 : Int32) (hy : 0 ≤ y4.toInt ∧ y4.toInt + 6 ≤ (L : Int)) (k0 : KX11 I0 M0) (k1 : KX12 I1 M1) : wq (fL_case2 N L xs I0 M0 I1 L1 M1 o2 y4) (fun R => KX11 R.1 R.2.1 ∧ KX12 R.2.2.1 R.2.2.2.2.1) := by
  unfold fL_case2
  have i1 := lx (y := y4) (j := (1 : Int32)) 1 (by decide) (by decide) (by decide) hy hL
  have i2 := lx (y := y4) (j := (2 : Int32)) 2 (by decide) (by decide) (by decide) hy hL
  have i3 := lx (y := y4) (j := (3 : Int32)) 3 (by decide) (by decide) (by decide) hy hL
  have i4 := lx (y := y4) (j := (4 : Int32)) 4 (by decide) (by decide) (by decide) hy hL
  have i5 := lx (y := y4) (j := (5 : Int32)) 5 (by decide) (by decide) (by decide) hy hL
  refine wq_in i1 ?_
  refine wq_in i2 ?_
  refine wq_in i3 ?_
  refine wq_b (tl_wheel hN _ _ _ _ _ _ k0) (fun r1 h_r1 => ?_)
  refine wq_v (fun v2 e_v2 => ?_)
  refine wq_in i1 ?_
  refine wq_in i2 ?_
  refine wq_in i3 ?_
  refine wq_b (tt_fX12_wheel hN _ _ _ _ _ _ k1) (fun r3 h_r3 => ?_)
  refine wq_v (fun v4 e_v4 => ?_)
  exact wq_s ⟨h_r1, h_r3.1⟩
theorem tl_case3 {N L : Nat} (hN : 3000000000 ≤ N) (hL : L ≤ 3072) (xs : Nat → Int32) (I0 : Nat → Int32) (M0 : Nat → Nat → Int32) (I1 : Nat → Int32) (L1 : Int64) (M1 : Nat → Nat → Int32) (o2 : Nat → Int64) (y4 : Int32) (hy : 0 ≤ y4.toInt ∧ y4.toInt + 6 ≤ (L : Int)) (k0 : KX11 I0 M0) (k1 : KX12 I1 M1) : wq (fL_case3 N L xs I0 M0 I1 L1 M1 o2 y4) (fun R => KX11 R.1 R.2.1 ∧ KX12 R.2.2.1 R.2.2.2.2.1) := by
  unfold fL_case3
  have i1 := lx (y := y4) (j := (1 : Int32)) 1 (by decide) (by decide) (by decide) hy hL
  have i2 := lx (y := y4) (j := (2 : Int32)) 2 (by decide) (by decide) (by decide) hy hL
  have i3 := lx (y := y4) (j := (3 : Int32)) 3 (by decide) (by decide) (by decide) hy hL
  have i4 := lx (y := y4) (j := (4 : Int32)) 4 (by decide) (by decide) (by decide) hy hL
  have i5 := lx (y := y4) (j := (5 : Int32)) 5 (by decide) (by decide) (by decide) hy hL
  refine wq_b (tt_fX11_fault hN _ _ k0) (fun r1 h_r1 => ?_)
  refine wq_b (tt_fX12_fault hN _ _ _ k1) (fun r2 h_r2 => ?_)
  exact wq_s ⟨k0, h_r2.1⟩
theorem tl_case4 {N L : Nat} (hN : 3000000000 ≤ N) (hL : L ≤ 3072) (xs : Nat → Int32) (I0 : Nat → Int32) (M0 : Nat → Nat → Int32) (I1 : Nat → Int32) (L1 : Int64) (M1 : Nat → Nat → Int32) (o2 : Nat → Int64) (y4 : Int32) (hy : 0 ≤ y4.toInt ∧ y4.toInt + 6 ≤ (L : Int)) (k0 : KX11 I0 M0) (k1 : KX12 I1 M1) : wq (fL_case4 N L xs I0 M0 I1 L1 M1 o2 y4) (fun R => KX11 R.1 R.2.1 ∧ KX12 R.2.2.1 R.2.2.2.2.1) := by
  unfold fL_case4
  have i1 := lx (y := y4) (j := (1 : Int32)) 1 (by decide) (by decide) (by decide) hy hL
  have i2 := lx (y := y4) (j := (2 : Int32)) 2 (by decide) (by decide) (by decide) hy hL
  have i3 := lx (y := y4) (j := (3 : Int32)) 3 (by decide) (by decide) (by decide) hy hL
  have i4 := lx (y := y4) (j := (4 : Int32)) 4 (by decide) (by decide) (by decide) hy hL
  have i5 := lx (y := y4) (j := (5 : Int32)) 5 (by decide) (by decide) (by decide) hy hL
  refine wq_in i1 ?_
  refine wq_b (tl_count hN _ _ _ _ k0) (fun r1 h_r1 => ?_)
  refine wq_v (fun v2 e_v2 => ?_)
  refine wq_in i1 ?_
  refine wq_b (tt_fX12_count hN _ _ _ _ k1) (fun r3 h_r3 => ?_)
  refine wq_v (fun v4 e_v4 => ?_)
  exact wq_s ⟨h_r1, h_r3.1⟩
theorem tl_case5 {N L : Nat} (hN : 3000000000 ≤ N) (hL : L ≤ 3072) (xs : Nat → Int32) (I0 : Nat → Int32) (M0 : Nat → Nat → Int32) (I1 : Nat → Int32) (L1 : Int64) (M1 : Nat → Nat → Int32) (o2 : Nat → Int64) (y4 : Int32) (hy : 0 ≤ y4.toInt ∧ y4.toInt + 6 ≤ (L : Int)) (k0 : KX11 I0 M0) (k1 : KX12 I1 M1) : wq (fL_case5 N L xs I0 M0 I1 L1 M1 o2 y4) (fun R => KX11 R.1 R.2.1 ∧ KX12 R.2.2.1 R.2.2.2.2.1) := by
  unfold fL_case5
  have i1 := lx (y := y4) (j := (1 : Int32)) 1 (by decide) (by decide) (by decide) hy hL
  have i2 := lx (y := y4) (j := (2 : Int32)) 2 (by decide) (by decide) (by decide) hy hL
  have i3 := lx (y := y4) (j := (3 : Int32)) 3 (by decide) (by decide) (by decide) hy hL
  have i4 := lx (y := y4) (j := (4 : Int32)) 4 (by decide) (by decide) (by decide) hy hL
  have i5 := lx (y := y4) (j := (5 : Int32)) 5 (by decide) (by decide) (by decide) hy hL
  refine wq_in i1 ?_
  refine wq_in i2 ?_
  refine wq_in i3 ?_
  refine wq_b (tl_place hN _ _ _ _ _ _ k0) (fun r1 h_r1 => ?_)
  refine wq_v (fun v2 e_v2 => ?_)
  refine wq_in i1 ?_
  refine wq_in i2 ?_
  refine wq_in i3 ?_
  refine wq_b (tt_fX12_place hN _ _ _ _ _ _ k1) (fun r3 h_r3 => ?_)
  refine wq_v (fun v4 e_v4 => ?_)
  exact wq_s ⟨h_r1, h_r3.1⟩
theorem tl_case6 {N L : Nat} (hN : 3000000000 ≤ N) (hL : L ≤ 3072) (xs : Nat → Int32) (I0 : Nat → Int32) (M0 : Nat → Nat → Int32) (I1 : Nat → Int32) (L1 : Int64) (M1 : Nat → Nat → Int32) (o2 : Nat → Int64) (y4 : Int32) (hy : 0 ≤ y4.toInt ∧ y4.toInt + 6 ≤ (L : Int)) (k0 : KX11 I0 M0) (k1 : KX12 I1 M1) : wq (fL_case6 N L xs I0 M0 I1 L1 M1 o2 y4) (fun R => KX11 R.1 R.2.1 ∧ KX12 R.2.2.1 R.2.2.2.2.1) := by
  unfold fL_case6
  have i1 := lx (y := y4) (j := (1 : Int32)) 1 (by decide) (by decide) (by decide) hy hL
  have i2 := lx (y := y4) (j := (2 : Int32)) 2 (by decide) (by decide) (by decide) hy hL
  have i3 := lx (y := y4) (j := (3 : Int32)) 3 (by decide) (by decide) (by decide) hy hL
  have i4 := lx (y := y4) (j := (4 : Int32)) 4 (by decide) (by decide) (by decide) hy hL
  have i5 := lx (y := y4) (j := (5 : Int32)) 5 (by decide) (by decide) (by decide) hy hL
  refine wq_in i1 ?_
  refine wq_in i2 ?_
  refine wq_in i3 ?_
  refine wq_b (tl_entry hN _ _ _ _ _ _ k0) (fun r1 h_r1 => ?_)
  refine wq_v (fun v2 e_v2 => ?_)
  refine wq_in i1 ?_
  refine wq_in i2 ?_
  refine wq_in i3 ?_
  refine wq_b (tt_fX12_entry hN _ _ _ _ _ _ k1) (fun r3 h_r3 => ?_)
  refine wq_v (fun v4 e_v4 => ?_)
  exact wq_s ⟨h_r1, h_r3.2.1⟩
theorem tl_case7 {N L : Nat} (hN : 3000000000 ≤ N) (hL : L ≤ 3072) (xs : Nat → Int32) (I0 : Nat → Int32) (M0 : Nat → Nat → Int32) (I1 : Nat → Int32) (L1 : Int64) (M1 : Nat → Nat → Int32) (o2 : Nat → Int64) (y4 : Int32) (hy : 0 ≤ y4.toInt ∧ y4.toInt + 6 ≤ (L : Int)) (k0 : KX11 I0 M0) (k1 : KX12 I1 M1) : wq (fL_case7 N L xs I0 M0 I1 L1 M1 o2 y4) (fun R => KX11 R.1 R.2.1 ∧ KX12 R.2.2.1 R.2.2.2.2.1) := by
  unfold fL_case7
  have i1 := lx (y := y4) (j := (1 : Int32)) 1 (by decide) (by decide) (by decide) hy hL
  have i2 := lx (y := y4) (j := (2 : Int32)) 2 (by decide) (by decide) (by decide) hy hL
  have i3 := lx (y := y4) (j := (3 : Int32)) 3 (by decide) (by decide) (by decide) hy hL
  have i4 := lx (y := y4) (j := (4 : Int32)) 4 (by decide) (by decide) (by decide) hy hL
  have i5 := lx (y := y4) (j := (5 : Int32)) 5 (by decide) (by decide) (by decide) hy hL
  refine wq_in i1 ?_
  refine wq_in i2 ?_
  refine wq_in i3 ?_
  refine wq_in i4 ?_
  refine wq_b (tl_cost hN _ _ _ _ _ _ _ k0) (fun r1 h_r1 => ?_)
  refine wq_v (fun v2 e_v2 => ?_)
  refine wq_in i1 ?_
  refine wq_in i2 ?_
  refine wq_in i3 ?_
  refine wq_in i4 ?_
  refine wq_b (tt_fX12_cost hN _ _ _ _ _ _ _ k1) (fun r3 h_r3 => ?_)
  refine wq_v (fun v4 e_v4 => ?_)
  exact wq_s ⟨h_r1, h_r3.2.1⟩
theorem tl_case8 {N L : Nat} (hN : 3000000000 ≤ N) (hL : L ≤ 3072) (xs : Nat → Int32) (I0 : Nat → Int32) (M0 : Nat → Nat → Int32) (I1 : Nat → Int32) (L1 : Int64) (M1 : Nat → Nat → Int32) (o2 : Nat → Int64) (y4 : Int32) (hy : 0 ≤ y4.toInt ∧ y4.toInt + 6 ≤ (L : Int)) (k0 : KX11 I0 M0) (k1 : KX12 I1 M1) : wq (fL_case8 N L xs I0 M0 I1 L1 M1 o2 y4) (fun R => KX11 R.1 R.2.1 ∧ KX12 R.2.2.1 R.2.2.2.2.1) := by
  unfold fL_case8
  have i1 := lx (y := y4) (j := (1 : Int32)) 1 (by decide) (by decide) (by decide) hy hL
  have i2 := lx (y := y4) (j := (2 : Int32)) 2 (by decide) (by decide) (by decide) hy hL
  have i3 := lx (y := y4) (j := (3 : Int32)) 3 (by decide) (by decide) (by decide) hy hL
  have i4 := lx (y := y4) (j := (4 : Int32)) 4 (by decide) (by decide) (by decide) hy hL
  have i5 := lx (y := y4) (j := (5 : Int32)) 5 (by decide) (by decide) (by decide) hy hL
  refine wq_in i1 ?_
  refine wq_in i2 ?_
  refine wq_in i3 ?_
  refine wq_in i4 ?_
  refine wq_in i5 ?_
  refine wq_b (tl_best hN _ _ _ _ _ _ _ _ k0) (fun r1 h_r1 => ?_)
  refine wq_v (fun v2 e_v2 => ?_)
  refine wq_in i1 ?_
  refine wq_in i2 ?_
  refine wq_in i3 ?_
  refine wq_in i4 ?_
  refine wq_in i5 ?_
  refine wq_b (tt_fX12_best hN _ _ _ _ _ _ _ _ k1) (fun r3 h_r3 => ?_)
  refine wq_v (fun v4 e_v4 => ?_)
  exact wq_s ⟨h_r1, h_r3.2.1⟩
theorem tl_case9 {N L : Nat} (hN : 3000000000 ≤ N) (hL : L ≤ 3072) (xs : Nat → Int32) (I0 : Nat → Int32) (M0 : Nat → Nat → Int32) (I1 : Nat → Int32) (L1 : Int64) (M1 : Nat → Nat → Int32) (o2 : Nat → Int64) (y4 : Int32) (hy : 0 ≤ y4.toInt ∧ y4.toInt + 6 ≤ (L : Int)) (k0 : KX11 I0 M0) (k1 : KX12 I1 M1) : wq (fL_case9 N L xs I0 M0 I1 L1 M1 o2 y4) (fun R => KX11 R.1 R.2.1 ∧ KX12 R.2.2.1 R.2.2.2.2.1) := by
  unfold fL_case9
  have i1 := lx (y := y4) (j := (1 : Int32)) 1 (by decide) (by decide) (by decide) hy hL
  have i2 := lx (y := y4) (j := (2 : Int32)) 2 (by decide) (by decide) (by decide) hy hL
  have i3 := lx (y := y4) (j := (3 : Int32)) 3 (by decide) (by decide) (by decide) hy hL
  have i4 := lx (y := y4) (j := (4 : Int32)) 4 (by decide) (by decide) (by decide) hy hL
  have i5 := lx (y := y4) (j := (5 : Int32)) 5 (by decide) (by decide) (by decide) hy hL
  refine wq_in i1 ?_
  refine wq_b (tl_day hN _ _ _ _ k0) (fun r1 h_r1 => ?_)
  refine wq_v (fun v2 e_v2 => ?_)
  refine wq_in i1 ?_
  refine wq_b (tt_fX12_day hN _ _ _ _ k1) (fun r3 h_r3 => ?_)
  refine wq_v (fun v4 e_v4 => ?_)
  exact wq_s ⟨h_r1, h_r3.1⟩
theorem tl_case10 {N L : Nat} (hN : 3000000000 ≤ N) (hL : L ≤ 3072) (xs : Nat → Int32) (I0 : Nat → Int32) (M0 : Nat → Nat → Int32) (I1 : Nat → Int32) (L1 : Int64) (M1 : Nat → Nat → Int32) (o2 : Nat → Int64) (y4 : Int32) (hy : 0 ≤ y4.toInt ∧ y4.toInt + 6 ≤ (L : Int)) (k0 : KX11 I0 M0) (k1 : KX12 I1 M1) : wq (fL_case10 N L xs I0 M0 I1 L1 M1 o2 y4) (fun R => KX11 R.1 R.2.1 ∧ KX12 R.2.2.1 R.2.2.2.2.1) := by
  unfold fL_case10
  have i1 := lx (y := y4) (j := (1 : Int32)) 1 (by decide) (by decide) (by decide) hy hL
  have i2 := lx (y := y4) (j := (2 : Int32)) 2 (by decide) (by decide) (by decide) hy hL
  have i3 := lx (y := y4) (j := (3 : Int32)) 3 (by decide) (by decide) (by decide) hy hL
  have i4 := lx (y := y4) (j := (4 : Int32)) 4 (by decide) (by decide) (by decide) hy hL
  have i5 := lx (y := y4) (j := (5 : Int32)) 5 (by decide) (by decide) (by decide) hy hL
  refine wq_in i1 ?_
  refine wq_in i2 ?_
  refine wq_in i3 ?_
  refine wq_in i4 ?_
  refine wq_in i5 ?_
  refine wq_b (tl_whose hN _ _ _ _ _ _ _ _ k0) (fun r1 h_r1 => ?_)
  refine wq_v (fun v2 e_v2 => ?_)
  refine wq_in i1 ?_
  refine wq_in i2 ?_
  refine wq_in i3 ?_
  refine wq_in i4 ?_
  refine wq_in i5 ?_
  refine wq_b (tt_fX12_whose hN _ _ _ _ _ _ _ _ k1) (fun r3 h_r3 => ?_)
  refine wq_v (fun v4 e_v4 => ?_)
  exact wq_s ⟨h_r1, h_r3.1⟩
theorem tl_case11 {N L : Nat} (hN : 3000000000 ≤ N) (hL : L ≤ 3072) (xs : Nat → Int32) (I0 : Nat → Int32) (M0 : Nat → Nat → Int32) (I1 : Nat → Int32) (L1 : Int64) (M1 : Nat → Nat → Int32) (o2 : Nat → Int64) (y4 : Int32) (hy : 0 ≤ y4.toInt ∧ y4.toInt + 6 ≤ (L : Int)) (k0 : KX11 I0 M0) (k1 : KX12 I1 M1) : wq (fL_case11 N L xs I0 M0 I1 L1 M1 o2 y4) (fun R => KX11 R.1 R.2.1 ∧ KX12 R.2.2.1 R.2.2.2.2.1) := by
  unfold fL_case11
  have i1 := lx (y := y4) (j := (1 : Int32)) 1 (by decide) (by decide) (by decide) hy hL
  have i2 := lx (y := y4) (j := (2 : Int32)) 2 (by decide) (by decide) (by decide) hy hL
  have i3 := lx (y := y4) (j := (3 : Int32)) 3 (by decide) (by decide) (by decide) hy hL
  have i4 := lx (y := y4) (j := (4 : Int32)) 4 (by decide) (by decide) (by decide) hy hL
  have i5 := lx (y := y4) (j := (5 : Int32)) 5 (by decide) (by decide) (by decide) hy hL
  refine wq_in i1 ?_
  refine wq_in i2 ?_
  refine wq_in i3 ?_
  refine wq_in i4 ?_
  refine wq_b (tl_mixed hN _ _ _ _ _ _ _ k0) (fun r1 h_r1 => ?_)
  refine wq_v (fun v2 e_v2 => ?_)
  refine wq_in i1 ?_
  refine wq_in i2 ?_
  refine wq_in i3 ?_
  refine wq_in i4 ?_
  refine wq_b (tt_fX12_mixed hN _ _ _ _ _ _ _ k1) (fun r3 h_r3 => ?_)
  refine wq_v (fun v4 e_v4 => ?_)
  exact wq_s ⟨h_r1, h_r3.1⟩
theorem tl_case12 {N L : Nat} (hN : 3000000000 ≤ N) (hL : L ≤ 3072) (xs : Nat → Int32) (I0 : Nat → Int32) (M0 : Nat → Nat → Int32) (I1 : Nat → Int32) (L1 : Int64) (M1 : Nat → Nat → Int32) (o2 : Nat → Int64) (y4 : Int32) (hy : 0 ≤ y4.toInt ∧ y4.toInt + 6 ≤ (L : Int)) (k0 : KX11 I0 M0) (k1 : KX12 I1 M1) : wq (fL_case12 N L xs I0 M0 I1 L1 M1 o2 y4) (fun R => KX11 R.1 R.2.1 ∧ KX12 R.2.2.1 R.2.2.2.2.1) := by
  unfold fL_case12
  have i1 := lx (y := y4) (j := (1 : Int32)) 1 (by decide) (by decide) (by decide) hy hL
  have i2 := lx (y := y4) (j := (2 : Int32)) 2 (by decide) (by decide) (by decide) hy hL
  have i3 := lx (y := y4) (j := (3 : Int32)) 3 (by decide) (by decide) (by decide) hy hL
  have i4 := lx (y := y4) (j := (4 : Int32)) 4 (by decide) (by decide) (by decide) hy hL
  have i5 := lx (y := y4) (j := (5 : Int32)) 5 (by decide) (by decide) (by decide) hy hL
  refine wq_in i1 ?_
  refine wq_in i2 ?_
  refine wq_b (tl_climb hN _ _ _ _ _ k0) (fun r1 h_r1 => ?_)
  refine wq_v (fun v2 e_v2 => ?_)
  refine wq_in i1 ?_
  refine wq_in i2 ?_
  refine wq_b (tt_fX12_climb hN _ _ _ _ _ k1) (fun r3 h_r3 => ?_)
  refine wq_v (fun v4 e_v4 => ?_)
  exact wq_s ⟨h_r1, h_r3.1⟩
theorem tl_case13 {N L : Nat} (hN : 3000000000 ≤ N) (hL : L ≤ 3072) (xs : Nat → Int32) (I0 : Nat → Int32) (M0 : Nat → Nat → Int32) (I1 : Nat → Int32) (L1 : Int64) (M1 : Nat → Nat → Int32) (o2 : Nat → Int64) (y4 : Int32) (hy : 0 ≤ y4.toInt ∧ y4.toInt + 6 ≤ (L : Int)) (k0 : KX11 I0 M0) (k1 : KX12 I1 M1) : wq (fL_case13 N L xs I0 M0 I1 L1 M1 o2 y4) (fun R => KX11 R.1 R.2.1 ∧ KX12 R.2.2.1 R.2.2.2.2.1) := by
  unfold fL_case13
  have i1 := lx (y := y4) (j := (1 : Int32)) 1 (by decide) (by decide) (by decide) hy hL
  have i2 := lx (y := y4) (j := (2 : Int32)) 2 (by decide) (by decide) (by decide) hy hL
  have i3 := lx (y := y4) (j := (3 : Int32)) 3 (by decide) (by decide) (by decide) hy hL
  have i4 := lx (y := y4) (j := (4 : Int32)) 4 (by decide) (by decide) (by decide) hy hL
  have i5 := lx (y := y4) (j := (5 : Int32)) 5 (by decide) (by decide) (by decide) hy hL
  refine wq_in i1 ?_
  refine wq_in i2 ?_
  refine wq_in i3 ?_
  refine wq_b (tl_rise hN _ _ _ _ _ _ k0) (fun r1 h_r1 => ?_)
  refine wq_v (fun v2 e_v2 => ?_)
  refine wq_in i1 ?_
  refine wq_in i2 ?_
  refine wq_in i3 ?_
  refine wq_b (tt_fX12_rise hN _ _ _ _ _ _ k1) (fun r3 h_r3 => ?_)
  refine wq_v (fun v4 e_v4 => ?_)
  exact wq_s ⟨h_r1, h_r3.1⟩
theorem tl_case14 {N L : Nat} (hN : 3000000000 ≤ N) (hL : L ≤ 3072) (xs : Nat → Int32) (I0 : Nat → Int32) (M0 : Nat → Nat → Int32) (I1 : Nat → Int32) (L1 : Int64) (M1 : Nat → Nat → Int32) (o2 : Nat → Int64) (y4 : Int32) (hy : 0 ≤ y4.toInt ∧ y4.toInt + 6 ≤ (L : Int)) (k0 : KX11 I0 M0) (k1 : KX12 I1 M1) : wq (fL_case14 N L xs I0 M0 I1 L1 M1 o2 y4) (fun R => KX11 R.1 R.2.1 ∧ KX12 R.2.2.1 R.2.2.2.2.1) := by
  unfold fL_case14
  have i1 := lx (y := y4) (j := (1 : Int32)) 1 (by decide) (by decide) (by decide) hy hL
  have i2 := lx (y := y4) (j := (2 : Int32)) 2 (by decide) (by decide) (by decide) hy hL
  have i3 := lx (y := y4) (j := (3 : Int32)) 3 (by decide) (by decide) (by decide) hy hL
  have i4 := lx (y := y4) (j := (4 : Int32)) 4 (by decide) (by decide) (by decide) hy hL
  have i5 := lx (y := y4) (j := (5 : Int32)) 5 (by decide) (by decide) (by decide) hy hL
  refine wq_in i1 ?_
  refine wq_in i2 ?_
  refine wq_b (tl_middle hN _ _ _ _ _ k0) (fun r1 h_r1 => ?_)
  refine wq_v (fun v2 e_v2 => ?_)
  refine wq_in i1 ?_
  refine wq_in i2 ?_
  refine wq_b (tt_fX12_middle hN _ _ _ _ _ k1) (fun r3 h_r3 => ?_)
  refine wq_v (fun v4 e_v4 => ?_)
  exact wq_s ⟨h_r1, h_r3.1⟩
theorem tl_case15 {N L : Nat} (hN : 3000000000 ≤ N) (hL : L ≤ 3072) (xs : Nat → Int32) (I0 : Nat → Int32) (M0 : Nat → Nat → Int32) (I1 : Nat → Int32) (L1 : Int64) (M1 : Nat → Nat → Int32) (o2 : Nat → Int64) (y4 : Int32) (hy : 0 ≤ y4.toInt ∧ y4.toInt + 6 ≤ (L : Int)) (k0 : KX11 I0 M0) (k1 : KX12 I1 M1) : wq (fL_case15 N L xs I0 M0 I1 L1 M1 o2 y4) (fun R => KX11 R.1 R.2.1 ∧ KX12 R.2.2.1 R.2.2.2.2.1) := by
  unfold fL_case15
  have i1 := lx (y := y4) (j := (1 : Int32)) 1 (by decide) (by decide) (by decide) hy hL
  have i2 := lx (y := y4) (j := (2 : Int32)) 2 (by decide) (by decide) (by decide) hy hL
  have i3 := lx (y := y4) (j := (3 : Int32)) 3 (by decide) (by decide) (by decide) hy hL
  have i4 := lx (y := y4) (j := (4 : Int32)) 4 (by decide) (by decide) (by decide) hy hL
  have i5 := lx (y := y4) (j := (5 : Int32)) 5 (by decide) (by decide) (by decide) hy hL
  refine wq_in i1 ?_
  refine wq_in i2 ?_
  refine wq_in i3 ?_
  refine wq_b (tl_hour hN _ _ _ _ _ _ k0) (fun r1 h_r1 => ?_)
  refine wq_v (fun v2 e_v2 => ?_)
  refine wq_in i1 ?_
  refine wq_in i2 ?_
  refine wq_in i3 ?_
  refine wq_b (tt_fX12_hour hN _ _ _ _ _ _ k1) (fun r3 h_r3 => ?_)
  refine wq_v (fun v4 e_v4 => ?_)
  exact wq_s ⟨h_r1, h_r3.1⟩
theorem tl_case16 {N L : Nat} (hN : 3000000000 ≤ N) (hL : L ≤ 3072) (xs : Nat → Int32) (I0 : Nat → Int32) (M0 : Nat → Nat → Int32) (I1 : Nat → Int32) (L1 : Int64) (M1 : Nat → Nat → Int32) (o2 : Nat → Int64) (y4 : Int32) (hy : 0 ≤ y4.toInt ∧ y4.toInt + 6 ≤ (L : Int)) (k0 : KX11 I0 M0) (k1 : KX12 I1 M1) : wq (fL_case16 N L xs I0 M0 I1 L1 M1 o2 y4) (fun R => KX11 R.1 R.2.1 ∧ KX12 R.2.2.1 R.2.2.2.2.1) := by
  unfold fL_case16
  have i1 := lx (y := y4) (j := (1 : Int32)) 1 (by decide) (by decide) (by decide) hy hL
  have i2 := lx (y := y4) (j := (2 : Int32)) 2 (by decide) (by decide) (by decide) hy hL
  have i3 := lx (y := y4) (j := (3 : Int32)) 3 (by decide) (by decide) (by decide) hy hL
  have i4 := lx (y := y4) (j := (4 : Int32)) 4 (by decide) (by decide) (by decide) hy hL
  have i5 := lx (y := y4) (j := (5 : Int32)) 5 (by decide) (by decide) (by decide) hy hL
  refine wq_in i1 ?_
  refine wq_in i2 ?_
  refine wq_in i3 ?_
  refine wq_in i4 ?_
  refine wq_b (tl_houseOf hN _ _ _ _ _ _ _ k0) (fun r1 h_r1 => ?_)
  refine wq_v (fun v2 e_v2 => ?_)
  refine wq_in i1 ?_
  refine wq_in i2 ?_
  refine wq_in i3 ?_
  refine wq_in i4 ?_
  refine wq_b (tt_fX12_houseOf hN _ _ _ _ _ _ _ k1) (fun r3 h_r3 => ?_)
  refine wq_v (fun v4 e_v4 => ?_)
  exact wq_s ⟨h_r1, h_r3.2.1⟩
theorem tl_case17 {N L : Nat} (hN : 3000000000 ≤ N) (hL : L ≤ 3072) (xs : Nat → Int32) (I0 : Nat → Int32) (M0 : Nat → Nat → Int32) (I1 : Nat → Int32) (L1 : Int64) (M1 : Nat → Nat → Int32) (o2 : Nat → Int64) (y4 : Int32) (hy : 0 ≤ y4.toInt ∧ y4.toInt + 6 ≤ (L : Int)) (k0 : KX11 I0 M0) (k1 : KX12 I1 M1) : wq (fL_case17 N L xs I0 M0 I1 L1 M1 o2 y4) (fun R => KX11 R.1 R.2.1 ∧ KX12 R.2.2.1 R.2.2.2.2.1) := by
  unfold fL_case17
  have i1 := lx (y := y4) (j := (1 : Int32)) 1 (by decide) (by decide) (by decide) hy hL
  have i2 := lx (y := y4) (j := (2 : Int32)) 2 (by decide) (by decide) (by decide) hy hL
  have i3 := lx (y := y4) (j := (3 : Int32)) 3 (by decide) (by decide) (by decide) hy hL
  have i4 := lx (y := y4) (j := (4 : Int32)) 4 (by decide) (by decide) (by decide) hy hL
  have i5 := lx (y := y4) (j := (5 : Int32)) 5 (by decide) (by decide) (by decide) hy hL
  refine wq_in i1 ?_
  refine wq_in i2 ?_
  refine wq_in i3 ?_
  refine wq_in i4 ?_
  refine wq_b (tl_agree hN _ _ _ _ _ _ _ k0) (fun r1 h_r1 => ?_)
  refine wq_v (fun v2 e_v2 => ?_)
  refine wq_in i1 ?_
  refine wq_in i2 ?_
  refine wq_in i3 ?_
  refine wq_in i4 ?_
  refine wq_b (tt_fX12_agree hN _ _ _ _ _ _ _ k1) (fun r3 h_r3 => ?_)
  refine wq_v (fun v4 e_v4 => ?_)
  exact wq_s ⟨h_r1, h_r3.1⟩
theorem tl_case18 {N L : Nat} (hN : 3000000000 ≤ N) (hL : L ≤ 3072) (xs : Nat → Int32) (I0 : Nat → Int32) (M0 : Nat → Nat → Int32) (I1 : Nat → Int32) (L1 : Int64) (M1 : Nat → Nat → Int32) (o2 : Nat → Int64) (y4 : Int32) (hy : 0 ≤ y4.toInt ∧ y4.toInt + 6 ≤ (L : Int)) (k0 : KX11 I0 M0) (k1 : KX12 I1 M1) : wq (fL_case18 N L xs I0 M0 I1 L1 M1 o2 y4) (fun R => KX11 R.1 R.2.1 ∧ KX12 R.2.2.1 R.2.2.2.2.1) := by
  unfold fL_case18
  have i1 := lx (y := y4) (j := (1 : Int32)) 1 (by decide) (by decide) (by decide) hy hL
  have i2 := lx (y := y4) (j := (2 : Int32)) 2 (by decide) (by decide) (by decide) hy hL
  have i3 := lx (y := y4) (j := (3 : Int32)) 3 (by decide) (by decide) (by decide) hy hL
  have i4 := lx (y := y4) (j := (4 : Int32)) 4 (by decide) (by decide) (by decide) hy hL
  have i5 := lx (y := y4) (j := (5 : Int32)) 5 (by decide) (by decide) (by decide) hy hL
  refine wq_in i1 ?_
  refine wq_in i2 ?_
  refine wq_in i3 ?_
  refine wq_b (tl_lot hN _ _ _ _ _ _ k0) (fun r1 h_r1 => ?_)
  refine wq_v (fun v2 e_v2 => ?_)
  refine wq_in i1 ?_
  refine wq_in i2 ?_
  refine wq_in i3 ?_
  refine wq_b (tt_fX12_lot hN _ _ _ _ _ _ k1) (fun r3 h_r3 => ?_)
  refine wq_v (fun v4 e_v4 => ?_)
  exact wq_s ⟨h_r1, h_r3.2.1⟩
theorem tl_case19 {N L : Nat} (hN : 3000000000 ≤ N) (hL : L ≤ 3072) (xs : Nat → Int32) (I0 : Nat → Int32) (M0 : Nat → Nat → Int32) (I1 : Nat → Int32) (L1 : Int64) (M1 : Nat → Nat → Int32) (o2 : Nat → Int64) (y4 : Int32) (hy : 0 ≤ y4.toInt ∧ y4.toInt + 6 ≤ (L : Int)) (k0 : KX11 I0 M0) (k1 : KX12 I1 M1) : wq (fL_case19 N L xs I0 M0 I1 L1 M1 o2 y4) (fun R => KX11 R.1 R.2.1 ∧ KX12 R.2.2.1 R.2.2.2.2.1) := by
  unfold fL_case19
  have i1 := lx (y := y4) (j := (1 : Int32)) 1 (by decide) (by decide) (by decide) hy hL
  have i2 := lx (y := y4) (j := (2 : Int32)) 2 (by decide) (by decide) (by decide) hy hL
  have i3 := lx (y := y4) (j := (3 : Int32)) 3 (by decide) (by decide) (by decide) hy hL
  have i4 := lx (y := y4) (j := (4 : Int32)) 4 (by decide) (by decide) (by decide) hy hL
  have i5 := lx (y := y4) (j := (5 : Int32)) 5 (by decide) (by decide) (by decide) hy hL
  refine wq_in i1 ?_
  refine wq_in i2 ?_
  refine wq_b (tl_price hN _ _ _ _ _ k0) (fun r1 h_r1 => ?_)
  refine wq_v (fun v2 e_v2 => ?_)
  refine wq_in i1 ?_
  refine wq_in i2 ?_
  refine wq_b (tt_fX12_price hN _ _ _ _ _ k1) (fun r3 h_r3 => ?_)
  refine wq_v (fun v4 e_v4 => ?_)
  exact wq_s ⟨h_r1, h_r3.1⟩
noncomputable def wI (x a b : Int32) : Int32 := if x < a then 0 else if b < x then 0 else 1
theorem wn11 {N : Nat} {x a b : Int32} : fX11_within N x a b = some (wI x a b) := by
  unfold fX11_within wI
  by_cases h : x < a
  · rw [if_pos h, if_pos h]
  · rw [if_neg h, if_neg h]
    by_cases h2 : b < x
    · rw [if_pos h2, if_pos h2]
    · rw [if_neg h2, if_neg h2]
theorem wn12 {N : Nat} {x a b : Int32} : fX12_within N x a b = some (wI x a b) := wn11 (N := N)
theorem rt_0 {N : Nat} {I : Nat → Int32} {L : Int64} {M : Nat → Nat → Int32} (h : I 0 = 0) : fX12_right N I L M 0 1 = some (0, upd I 0 1, L, M) := by
  unfold fX12_right
  rw [if_pos h, if_pos rfl]
  show (if (upd I 0 1) 0 = 0 then some ((1 : Int32), upd I 0 1, L, M) else some (0, upd I 0 1, L, M)) = _
  exact if_neg (show ¬ (1 : Int32) = 0 by decide)
theorem rt_1 {N : Nat} {I : Nat → Int32} {L : Int64} {M : Nat → Nat → Int32} {x : Int32} (h : I 0 = 0) (hx : ¬ x = 0) : fX12_right N I L M x 1 = some (1, I, L, M) := by
  unfold fX12_right
  rw [if_pos h, if_neg hx, if_pos h]
noncomputable def skA (x1 x2 x3 x4 : Int32) : Int32 := if wI x1 0 5 = 0 then 1 else if wI x2 0 19 = 0 then 1 else if wI x3 0 3 = 0 then 1 else if wI x4 0 1000000 = 0 then 1 else 0
theorem wI_01 (x a b : Int32) : wI x a b = 0 ∨ wI x a b = 1 := by
  unfold wI
  by_cases h : x < a
  · left; rw [if_pos h]
  · rw [if_neg h]
    by_cases h2 : b < x
    · left; rw [if_pos h2]
    · right; rw [if_neg h2]
theorem wI_fit (x a b : Int32) : wI x a b &&& 1 = wI x a b := by
  rcases wI_01 x a b with h | h <;> rw [h] <;> decide
theorem wI_t {x a b : Int32} (h : x < a ∨ b < x) : wI x a b = 0 := by
  unfold wI
  by_cases h1 : x < a
  · rw [if_pos h1]
  · rw [if_neg h1, if_pos (h.resolve_left h1)]
theorem wI_f {x a b : Int32} (h1 : ¬ x < a) (h2 : ¬ b < x) : ¬ wI x a b = 0 := by
  unfold wI
  rw [if_neg h1, if_neg h2]
  decide
theorem ws_lt5 {x : Int32} : (6 : Int32) ≤ x ↔ (5 : Int32) < x := by
  rw [Int32.le_iff_toInt_le, Int32.lt_iff_toInt_lt]
  show (6 : Int) ≤ x.toInt ↔ (5 : Int) < x.toInt
  omega
theorem ws_lt19 {x : Int32} : (20 : Int32) ≤ x ↔ (19 : Int32) < x := by
  rw [Int32.le_iff_toInt_le, Int32.lt_iff_toInt_lt]
  show (20 : Int) ≤ x.toInt ↔ (19 : Int) < x.toInt
  omega
theorem ib_11 {N : Nat} {x : Int32} : fX11_isBook N x = some (wI x 0 5) := by
  unfold fX11_isBook
  rw [wn11, Option.bind_some, if_pos (wI_fit _ _ _)]
theorem id_11 {N : Nat} {x : Int32} : fX11_isDay N x = some (wI x 0 1000000) := by
  unfold fX11_isDay
  rw [wn11, Option.bind_some, if_pos (wI_fit _ _ _)]
theorem no_11 {N : Nat} {x1 x2 : Int32} : fX11_numberOf N x1 x2 = some (if wI x1 0 5 = 0 then .inl 1 else if wI x2 0 19 = 0 then .inl 1 else .inr (((20 : Int32) * x1) + x2)) := by
  have e0 : fX11_need N 0 = some (.inl 1) := by unfold fX11_need; rw [if_pos rfl]
  have e1 : fX11_need N 1 = some (.inr ()) := by unfold fX11_need; rw [if_neg (by decide)]; rfl
  unfold fX11_numberOf
  rw [ib_11, Option.bind_some]
  by_cases h : wI x1 0 5 = 0
  · rw [if_pos h, if_pos h]
    unfold fX11_numberOf_J21
    rw [e0]
    rfl
  · rw [if_neg h, if_neg h, wn11, Option.bind_some]
    by_cases h2 : wI x2 0 19 = 0
    · rw [if_pos h2, if_pos h2]
      unfold fX11_numberOf_J21
      rw [e0]
      rfl
    · rw [if_neg h2, if_neg h2, e1]
      rfl
theorem iw_12 {N : Nat} {I : Nat → Int32} {L : Int64} {M : Nat → Nat → Int32} {x1 x2 : Int32} : fX12_isWheel N I L M x1 x2 = some (if wI x1 0 5 = 0 then (0, upd (upd I 0 0) 0 1, L, M) else if wI x2 0 19 = 0 then (0, upd (upd I 0 0) 0 1, L, M) else (1, upd I 0 0, L, M)) := by
  have j0 : (upd I 0 0) 0 = 0 := rfl
  have a0 : fX12_right N (upd I 0 0) L M 0 1 = some (0, upd (upd I 0 0) 0 1, L, M) := rt_0 j0
  have a1 : fX12_right N (upd I 0 0) L M 1 1 = some (1, upd I 0 0, L, M) := rt_1 j0 (by decide)
  unfold fX12_isWheel
  rw [Option.bind_some, a0, a1, Option.bind_some, Option.bind_some]
  by_cases h1 : x1 < 0
  · rw [if_pos h1, if_pos (wI_t (Or.inl h1)), if_pos (show (0 : Int32) &&& 1 = 0 by decide)]
  · rw [if_neg h1]
    by_cases h2 : (6 : Int32) ≤ x1
    · rw [if_pos h2, if_pos (wI_t (Or.inr (ws_lt5.mp h2))), if_pos (show (0 : Int32) &&& 1 = 0 by decide)]
    · rw [if_neg h2, if_neg (wI_f h1 (fun q => h2 (ws_lt5.mpr q)))]
      by_cases h3 : x2 < 0
      · rw [if_pos h3, if_pos (wI_t (Or.inl h3)), if_pos (show (0 : Int32) &&& 1 = 0 by decide)]
      · rw [if_neg h3]
        by_cases h4 : (20 : Int32) ≤ x2
        · rw [if_pos h4, if_pos (wI_t (Or.inr (ws_lt19.mp h4))), if_pos (show (0 : Int32) &&& 1 = 0 by decide)]
        · rw [if_neg h4, if_neg (wI_f h3 (fun q => h4 (ws_lt19.mpr q))), if_pos (show (1 : Int32) &&& 1 = 1 by decide)]
theorem sj0_12 {N : Nat} {I : Nat → Int32} {L : Int64} {M : Nat → Nat → Int32} {x1 x2 x3 x4 : Int32} {r : (Nat → Int32) × Int64 × (Nat → Nat → Int32)} (j : I 0 = 0) (h : fX12_seek_J35 N x1 x2 x3 x4 I L M 0 = some r) : r.1 0 = 1 := by
  unfold fX12_seek_J35 at h
  rw [rt_0 j, Option.bind_some, if_pos rfl] at h
  have h := Option.some.inj h
  subst h
  rfl
theorem sj1_12 {N : Nat} {I : Nat → Int32} {L : Int64} {M : Nat → Nat → Int32} {x1 x2 x3 x4 : Int32} {r : (Nat → Int32) × Int64 × (Nat → Nat → Int32)} (j : I 0 = 0) (h : fX12_seek_J35 N x1 x2 x3 x4 I L M 1 = some r) : r.1 0 = 0 := by
  unfold fX12_seek_J35 at h
  rw [rt_1 j (by decide), Option.bind_some] at h
  have h := wb_f (c := (1 : Int32) = 0) (by decide) h
  obtain ⟨J, eJ, h⟩ := wb_v h
  have j0 : J 0 = 0 := by rw [eJ]; exact j
  obtain ⟨-, h⟩ := wb_n h
  obtain ⟨M2, -, h⟩ := wb_v h
  obtain ⟨-, h⟩ := wb_n h
  obtain ⟨M3, -, h⟩ := wb_v h
  obtain ⟨-, h⟩ := wb_n h
  obtain ⟨M4, -, h⟩ := wb_v h
  obtain ⟨-, h⟩ := wb_n h
  obtain ⟨M5, -, h⟩ := wb_v h
  obtain ⟨-, h⟩ := wb_n h
  obtain ⟨M6, -, h⟩ := wb_v h
  obtain ⟨-, h⟩ := wb_n h
  obtain ⟨M7, -, h⟩ := wb_v h
  obtain ⟨-, h⟩ := wb_n h
  obtain ⟨M8, -, h⟩ := wb_v h
  have h := Option.some.inj h
  subst h
  exact j0
theorem la_12 {N : Nat} {I : Nat → Int32} {L : Int64} {M : Nat → Nat → Int32} {x1 x2 x3 x4 : Int32} {r : (Nat → Int32) × Int64 × (Nat → Nat → Int32)} (h : fX12_seek N I L M x1 x2 x3 x4 = some r) : r.1 0 = skA x1 x2 x3 x4 := by
  unfold fX12_seek at h
  rw [iw_12, Option.bind_some] at h
  unfold skA
  by_cases h1 : wI x1 0 5 = 0
  · rw [if_pos h1, if_pos rfl] at h
    have h := Option.some.inj h
    subst h
    rw [if_pos h1]
    rfl
  · rw [if_neg h1] at h
    rw [if_neg h1]
    by_cases h2 : wI x2 0 19 = 0
    · rw [if_pos h2, if_pos rfl] at h
      have h := Option.some.inj h
      subst h
      rw [if_pos h2]
      rfl
    · rw [if_neg h2] at h
      rw [if_neg h2]
      have h := wb_f (c := (1 : Int32) = 0) (by decide) h
      rw [wn12, Option.bind_some] at h
      by_cases h3 : wI x3 0 3 = 0
      · rw [if_pos h3]
        have h := wb_t h3 h
        unfold fX12_seek_J34 at h
        exact sj0_12 rfl h
      · rw [if_neg h3]
        have h := wb_f h3 h
        rw [wn12, Option.bind_some] at h
        by_cases h4 : wI x4 0 1000000 = 0
        · rw [if_pos h4]
          have h := wb_t h4 h
          unfold fX12_seek_J34 at h
          exact sj0_12 rfl h
        · rw [if_neg h4]
          have h := wb_f h4 h
          exact sj1_12 rfl h
theorem sk0_11 {N : Nat} {I : Nat → Int32} {M : Nat → Nat → Int32} {x1 x2 x3 x4 y : Int32} {r : Nat ⊕ ((Nat → Int32) × (Nat → Nat → Int32))} (h : fX11_seek_J29 N x1 x2 x3 x4 I M y 0 = some r) : r = .inl 1 := by
  have e0 : fX11_need N 0 = some (.inl 1) := by unfold fX11_need; rw [if_pos rfl]
  unfold fX11_seek_J29 at h
  rw [e0] at h
  exact (Option.some.inj h).symm
theorem sk1_11 {N : Nat} {I : Nat → Int32} {M : Nat → Nat → Int32} {x1 x2 x3 x4 y : Int32} {r : Nat ⊕ ((Nat → Int32) × (Nat → Nat → Int32))} (h : fX11_seek_J29 N x1 x2 x3 x4 I M y 1 = some r) : ∃ q, r = .inr q := by
  have e1 : fX11_need N 1 = some (.inr ()) := by unfold fX11_need; rw [if_neg (by decide)]; rfl
  unfold fX11_seek_J29 at h
  rw [e1] at h
  cases r with
  | inl k => exact absurd h wb_okn
  | inr q => exact ⟨q, rfl⟩
theorem la_11 {N : Nat} {I : Nat → Int32} {M : Nat → Nat → Int32} {x1 x2 x3 x4 : Int32} {r : Nat ⊕ ((Nat → Int32) × (Nat → Nat → Int32))} (h : fX11_seek N I M x1 x2 x3 x4 = some r) : (skA x1 x2 x3 x4 = 1 ∧ r = .inl 1) ∨ (skA x1 x2 x3 x4 = 0 ∧ ∃ q, r = .inr q) := by
  unfold fX11_seek at h
  rw [no_11] at h
  unfold skA
  by_cases h1 : wI x1 0 5 = 0
  · rw [if_pos h1] at h
    rw [if_pos h1]
    exact Or.inl ⟨rfl, (Option.some.inj h).symm⟩
  · rw [if_neg h1] at h
    rw [if_neg h1]
    by_cases h2 : wI x2 0 19 = 0
    · rw [if_pos h2] at h
      rw [if_pos h2]
      exact Or.inl ⟨rfl, (Option.some.inj h).symm⟩
    · rw [if_neg h2] at h
      rw [if_neg h2]
      have h : ((fX11_within N x3 (0 : Int32) (3 : Int32)).bind fun r6 => if r6 = 0 then (fX11_seek_J28 N x1 x2 x3 x4 I M (((20 : Int32) * x1) + x2)) else (fX11_isDay N x4).bind fun r7 => if r7 = 0 then (fX11_seek_J28 N x1 x2 x3 x4 I M (((20 : Int32) * x1) + x2)) else fX11_seek_J29 N x1 x2 x3 x4 I M (((20 : Int32) * x1) + x2) (1 : Int32)) = some r := h
      rw [wn11, Option.bind_some] at h
      by_cases h3 : wI x3 0 3 = 0
      · rw [if_pos h3]
        have h := wb_t h3 h
        unfold fX11_seek_J28 at h
        exact Or.inl ⟨rfl, sk0_11 h⟩
      · rw [if_neg h3]
        have h := wb_f h3 h
        rw [id_11, Option.bind_some] at h
        by_cases h4 : wI x4 0 1000000 = 0
        · rw [if_pos h4]
          have h := wb_t h4 h
          unfold fX11_seek_J28 at h
          exact Or.inl ⟨rfl, sk0_11 h⟩
        · rw [if_neg h4]
          have h := wb_f h4 h
          exact Or.inr ⟨rfl, sk1_11 h⟩
theorem hpi2 {α β : Type} {x : Option (Nat ⊕ α)} {g : Nat → Option β} {f : α → Option β} {R : β} (h : wb_hp x g f = some R) : (∃ k, x = some (.inl k) ∧ g k = some R) ∨ ∃ r, x = some (.inr r) ∧ f r = some R := by
  match x, h with
  | none, h => cases h
  | some (.inl k), h => exact Or.inl ⟨k, rfl, h⟩
  | some (.inr a), h => exact Or.inr ⟨a, rfl, h⟩
theorem lb_11 {N : Nat} {I : Nat → Int32} {M : Nat → Nat → Int32} {x1 x2 x3 x4 : Int32} {r : Int32 × (Nat → Int32) × (Nat → Nat → Int32)} (h : fL_seek N I M x1 x2 x3 x4 = some r) : r.1 = skA x1 x2 x3 x4 := by
  unfold fL_seek at h
  rcases hpi2 h with ⟨k, e, h⟩ | ⟨q, e, h⟩
  · rcases la_11 e with ⟨hb, e2⟩ | ⟨-, q, e2⟩
    · have e2 := Sum.inl.inj e2
      subst e2
      have h := Option.some.inj (wb_t (c := (1 : Nat) = 1) rfl h)
      subst h
      exact hb.symm
    · cases e2
  · rcases la_11 e with ⟨-, e2⟩ | ⟨hb, q2, e2⟩
    · cases e2
    · have h := Option.some.inj h
      subst h
      exact hb.symm
theorem tl_case20 {N L : Nat} (hN : 3000000000 ≤ N) (hL : L ≤ 3072) (xs : Nat → Int32) (I0 : Nat → Int32) (M0 : Nat → Nat → Int32) (I1 : Nat → Int32) (L1 : Int64) (M1 : Nat → Nat → Int32) (o2 : Nat → Int64) (y4 : Int32) (hy : 0 ≤ y4.toInt ∧ y4.toInt + 6 ≤ (L : Int)) (k0 : KX11 I0 M0) (k1 : KX12 I1 M1) : wq (fL_case20 N L xs I0 M0 I1 L1 M1 o2 y4) (fun R => KX11 R.1 R.2.1 ∧ KX12 R.2.2.1 R.2.2.2.2.1) := by
  unfold fL_case20
  have i1 := lx (y := y4) (j := (1 : Int32)) 1 (by decide) (by decide) (by decide) hy hL
  have i2 := lx (y := y4) (j := (2 : Int32)) 2 (by decide) (by decide) (by decide) hy hL
  have i3 := lx (y := y4) (j := (3 : Int32)) 3 (by decide) (by decide) (by decide) hy hL
  have i4 := lx (y := y4) (j := (4 : Int32)) 4 (by decide) (by decide) (by decide) hy hL
  have i5 := lx (y := y4) (j := (5 : Int32)) 5 (by decide) (by decide) (by decide) hy hL
  refine wq_in i1 (wq_in i2 (wq_in i3 (wq_in i4 ?_)))
  obtain ⟨r1, e1, h1⟩ := tl_seek hN I0 M0 (xs (y4 + (1 : Int32)).toNatClampNeg) (xs (y4 + (2 : Int32)).toNatClampNeg) (xs (y4 + (3 : Int32)).toNatClampNeg) (xs (y4 + (4 : Int32)).toNatClampNeg) k0
  rw [e1, Option.bind_some]
  refine wq_v (fun v2 e2 => ?_)
  refine wq_in i1 (wq_in i2 (wq_in i3 (wq_in i4 ?_)))
  obtain ⟨r3, e3, h3⟩ := tt_fX12_seek hN I1 L1 M1 (xs (y4 + (1 : Int32)).toNatClampNeg) (xs (y4 + (2 : Int32)).toNatClampNeg) (xs (y4 + (3 : Int32)).toNatClampNeg) (xs (y4 + (4 : Int32)).toNatClampNeg) k1
  rw [e3, Option.bind_some]
  have hc := lb_11 e1
  have hd := la_12 e3
  unfold fX12_thrown
  refine wq_v (fun r5 e5 => ?_)
  subst e2
  subst e5
  rw [if_pos (hd.trans hc.symm)]
  exact wq_s ⟨h1, h3.1⟩
theorem tl_case21 {N L : Nat} (hN : 3000000000 ≤ N) (hL : L ≤ 3072) (xs : Nat → Int32) (I0 : Nat → Int32) (M0 : Nat → Nat → Int32) (I1 : Nat → Int32) (L1 : Int64) (M1 : Nat → Nat → Int32) (o2 : Nat → Int64) (y4 : Int32) (hy : 0 ≤ y4.toInt ∧ y4.toInt + 6 ≤ (L : Int)) (k0 : KX11 I0 M0) (k1 : KX12 I1 M1) : wq (fL_case21 N L xs I0 M0 I1 L1 M1 o2 y4) (fun R => KX11 R.1 R.2.1 ∧ KX12 R.2.2.1 R.2.2.2.2.1) := by
  unfold fL_case21
  have i1 := lx (y := y4) (j := (1 : Int32)) 1 (by decide) (by decide) (by decide) hy hL
  have i2 := lx (y := y4) (j := (2 : Int32)) 2 (by decide) (by decide) (by decide) hy hL
  have i3 := lx (y := y4) (j := (3 : Int32)) 3 (by decide) (by decide) (by decide) hy hL
  have i4 := lx (y := y4) (j := (4 : Int32)) 4 (by decide) (by decide) (by decide) hy hL
  have i5 := lx (y := y4) (j := (5 : Int32)) 5 (by decide) (by decide) (by decide) hy hL
  refine wq_in i1 ?_
  refine wq_b (tl_on hN _ _ _ _ k0) (fun r1 h_r1 => ?_)
  refine wq_v (fun v2 e_v2 => ?_)
  refine wq_in i1 ?_
  refine wq_b (tt_fX12_on hN _ _ _ _ k1) (fun r3 h_r3 => ?_)
  refine wq_v (fun v4 e_v4 => ?_)
  exact wq_s ⟨h_r1, h_r3.2.1⟩
theorem tl_case22 {N L : Nat} (hN : 3000000000 ≤ N) (hL : L ≤ 3072) (xs : Nat → Int32) (I0 : Nat → Int32) (M0 : Nat → Nat → Int32) (I1 : Nat → Int32) (L1 : Int64) (M1 : Nat → Nat → Int32) (o2 : Nat → Int64) (y4 : Int32) (hy : 0 ≤ y4.toInt ∧ y4.toInt + 6 ≤ (L : Int)) (k0 : KX11 I0 M0) (k1 : KX12 I1 M1) : wq (fL_case22 N L xs I0 M0 I1 L1 M1 o2 y4) (fun R => KX11 R.1 R.2.1 ∧ KX12 R.2.2.1 R.2.2.2.2.1) := by
  unfold fL_case22
  have i1 := lx (y := y4) (j := (1 : Int32)) 1 (by decide) (by decide) (by decide) hy hL
  have i2 := lx (y := y4) (j := (2 : Int32)) 2 (by decide) (by decide) (by decide) hy hL
  have i3 := lx (y := y4) (j := (3 : Int32)) 3 (by decide) (by decide) (by decide) hy hL
  have i4 := lx (y := y4) (j := (4 : Int32)) 4 (by decide) (by decide) (by decide) hy hL
  have i5 := lx (y := y4) (j := (5 : Int32)) 5 (by decide) (by decide) (by decide) hy hL
  refine wq_in i1 ?_
  refine wq_b (tl_held hN _ _ _ _ k0) (fun r1 h_r1 => ?_)
  refine wq_v (fun v2 e_v2 => ?_)
  refine wq_in i1 ?_
  refine wq_b (tt_fX12_held hN _ _ _ _ k1) (fun r3 h_r3 => ?_)
  refine wq_v (fun v4 e_v4 => ?_)
  exact wq_s ⟨h_r1, h_r3.1⟩
theorem tl_case23 {N L : Nat} (hN : 3000000000 ≤ N) (hL : L ≤ 3072) (xs : Nat → Int32) (I0 : Nat → Int32) (M0 : Nat → Nat → Int32) (I1 : Nat → Int32) (L1 : Int64) (M1 : Nat → Nat → Int32) (o2 : Nat → Int64) (y4 : Int32) (hy : 0 ≤ y4.toInt ∧ y4.toInt + 6 ≤ (L : Int)) (k0 : KX11 I0 M0) (k1 : KX12 I1 M1) : wq (fL_case23 N L xs I0 M0 I1 L1 M1 o2 y4) (fun R => KX11 R.1 R.2.1 ∧ KX12 R.2.2.1 R.2.2.2.2.1) := by
  unfold fL_case23
  have i1 := lx (y := y4) (j := (1 : Int32)) 1 (by decide) (by decide) (by decide) hy hL
  have i2 := lx (y := y4) (j := (2 : Int32)) 2 (by decide) (by decide) (by decide) hy hL
  have i3 := lx (y := y4) (j := (3 : Int32)) 3 (by decide) (by decide) (by decide) hy hL
  have i4 := lx (y := y4) (j := (4 : Int32)) 4 (by decide) (by decide) (by decide) hy hL
  have i5 := lx (y := y4) (j := (5 : Int32)) 5 (by decide) (by decide) (by decide) hy hL
  refine wq_b (tt_fX11_image hN _ _ k0) (fun r1 h_r1 => ?_)
  refine wq_b (tt_fX12_image hN _ _ _ k1) (fun r2 h_r2 => ?_)
  exact wq_s ⟨h_r1.2.1, h_r2.1⟩
theorem tl_case24 {N L : Nat} (hN : 3000000000 ≤ N) (hL : L ≤ 3072) (xs : Nat → Int32) (I0 : Nat → Int32) (M0 : Nat → Nat → Int32) (I1 : Nat → Int32) (L1 : Int64) (M1 : Nat → Nat → Int32) (o2 : Nat → Int64) (y4 : Int32) (hy : 0 ≤ y4.toInt ∧ y4.toInt + 6 ≤ (L : Int)) (k0 : KX11 I0 M0) (k1 : KX12 I1 M1) : wq (fL_case24 N L xs I0 M0 I1 L1 M1 o2 y4) (fun R => KX11 R.1 R.2.1 ∧ KX12 R.2.2.1 R.2.2.2.2.1) := by
  unfold fL_case24
  have i1 := lx (y := y4) (j := (1 : Int32)) 1 (by decide) (by decide) (by decide) hy hL
  have i2 := lx (y := y4) (j := (2 : Int32)) 2 (by decide) (by decide) (by decide) hy hL
  have i3 := lx (y := y4) (j := (3 : Int32)) 3 (by decide) (by decide) (by decide) hy hL
  have i4 := lx (y := y4) (j := (4 : Int32)) 4 (by decide) (by decide) (by decide) hy hL
  have i5 := lx (y := y4) (j := (5 : Int32)) 5 (by decide) (by decide) (by decide) hy hL
  refine wq_b (tt_fX11_restore hN _ _ k0) (fun r1 h_r1 => ?_)
  refine wq_b (tt_fX12_restore hN _ _ _ k1) (fun r2 h_r2 => ?_)
  exact wq_s ⟨h_r1.2.1, h_r2.1⟩
theorem tl_case25 {N L : Nat} (hN : 3000000000 ≤ N) (hL : L ≤ 3072) (xs : Nat → Int32) (I0 : Nat → Int32) (M0 : Nat → Nat → Int32) (I1 : Nat → Int32) (L1 : Int64) (M1 : Nat → Nat → Int32) (o2 : Nat → Int64) (y4 : Int32) (hy : 0 ≤ y4.toInt ∧ y4.toInt + 6 ≤ (L : Int)) (k0 : KX11 I0 M0) (k1 : KX12 I1 M1) : wq (fL_case25 N L xs I0 M0 I1 L1 M1 o2 y4) (fun R => KX11 R.1 R.2.1 ∧ KX12 R.2.2.1 R.2.2.2.2.1) := by
  unfold fL_case25
  have i1 := lx (y := y4) (j := (1 : Int32)) 1 (by decide) (by decide) (by decide) hy hL
  have i2 := lx (y := y4) (j := (2 : Int32)) 2 (by decide) (by decide) (by decide) hy hL
  have i3 := lx (y := y4) (j := (3 : Int32)) 3 (by decide) (by decide) (by decide) hy hL
  have i4 := lx (y := y4) (j := (4 : Int32)) 4 (by decide) (by decide) (by decide) hy hL
  have i5 := lx (y := y4) (j := (5 : Int32)) 5 (by decide) (by decide) (by decide) hy hL
  refine wq_in i1 ?_
  refine wq_in i2 ?_
  refine wq_in i3 ?_
  refine wq_in i4 ?_
  refine wq_in i5 ?_
  refine wq_b (tl_misread hN _ _ _ _ _ _ _ _ k0) (fun r1 h_r1 => ?_)
  refine wq_v (fun v2 e_v2 => ?_)
  refine wq_in i1 ?_
  refine wq_in i2 ?_
  refine wq_in i3 ?_
  refine wq_in i4 ?_
  refine wq_in i5 ?_
  refine wq_b (tt_fX12_misread hN _ _ _ _ _ _ _ _ k1) (fun r3 h_r3 => ?_)
  refine wq_v (fun v4 e_v4 => ?_)
  exact wq_s ⟨h_r1, h_r3.2.1⟩
theorem tl_case26 {N L : Nat} (hN : 3000000000 ≤ N) (hL : L ≤ 3072) (xs : Nat → Int32) (I0 : Nat → Int32) (M0 : Nat → Nat → Int32) (I1 : Nat → Int32) (L1 : Int64) (M1 : Nat → Nat → Int32) (o2 : Nat → Int64) (y4 : Int32) (hy : 0 ≤ y4.toInt ∧ y4.toInt + 6 ≤ (L : Int)) (k0 : KX11 I0 M0) (k1 : KX12 I1 M1) : wq (fL_case26 N L xs I0 M0 I1 L1 M1 o2 y4) (fun R => KX11 R.1 R.2.1 ∧ KX12 R.2.2.1 R.2.2.2.2.1) := by
  unfold fL_case26
  have i1 := lx (y := y4) (j := (1 : Int32)) 1 (by decide) (by decide) (by decide) hy hL
  have i2 := lx (y := y4) (j := (2 : Int32)) 2 (by decide) (by decide) (by decide) hy hL
  have i3 := lx (y := y4) (j := (3 : Int32)) 3 (by decide) (by decide) (by decide) hy hL
  have i4 := lx (y := y4) (j := (4 : Int32)) 4 (by decide) (by decide) (by decide) hy hL
  have i5 := lx (y := y4) (j := (5 : Int32)) 5 (by decide) (by decide) (by decide) hy hL
  refine wq_in i1 ?_
  refine wq_in i2 ?_
  refine wq_in i3 ?_
  refine wq_in i4 ?_
  refine wq_b (tl_errors hN _ _ _ _ _ _ _ k0) (fun r1 h_r1 => ?_)
  refine wq_v (fun v2 e_v2 => ?_)
  refine wq_in i1 ?_
  refine wq_in i2 ?_
  refine wq_in i3 ?_
  refine wq_in i4 ?_
  refine wq_b (tt_fX12_errors hN _ _ _ _ _ _ _ k1) (fun r3 h_r3 => ?_)
  refine wq_v (fun v4 e_v4 => ?_)
  exact wq_s ⟨h_r1, h_r3.1⟩
theorem tl_case27 {N L : Nat} (hN : 3000000000 ≤ N) (hL : L ≤ 3072) (xs : Nat → Int32) (I0 : Nat → Int32) (M0 : Nat → Nat → Int32) (I1 : Nat → Int32) (L1 : Int64) (M1 : Nat → Nat → Int32) (o2 : Nat → Int64) (y4 : Int32) (hy : 0 ≤ y4.toInt ∧ y4.toInt + 6 ≤ (L : Int)) (k0 : KX11 I0 M0) (k1 : KX12 I1 M1) : wq (fL_case27 N L xs I0 M0 I1 L1 M1 o2 y4) (fun R => KX11 R.1 R.2.1 ∧ KX12 R.2.2.1 R.2.2.2.2.1) := by
  unfold fL_case27
  have i1 := lx (y := y4) (j := (1 : Int32)) 1 (by decide) (by decide) (by decide) hy hL
  have i2 := lx (y := y4) (j := (2 : Int32)) 2 (by decide) (by decide) (by decide) hy hL
  have i3 := lx (y := y4) (j := (3 : Int32)) 3 (by decide) (by decide) (by decide) hy hL
  have i4 := lx (y := y4) (j := (4 : Int32)) 4 (by decide) (by decide) (by decide) hy hL
  have i5 := lx (y := y4) (j := (5 : Int32)) 5 (by decide) (by decide) (by decide) hy hL
  refine wq_in i1 ?_
  refine wq_in i2 ?_
  refine wq_in i3 ?_
  refine wq_b (tl_possible hN _ _ _ _ _ _ k0) (fun r1 h_r1 => ?_)
  refine wq_v (fun v2 e_v2 => ?_)
  refine wq_in i1 ?_
  refine wq_in i2 ?_
  refine wq_in i3 ?_
  refine wq_b (tt_fX12_possible hN _ _ _ _ _ _ k1) (fun r3 h_r3 => ?_)
  refine wq_v (fun v4 e_v4 => ?_)
  exact wq_s ⟨h_r1, h_r3.1⟩
theorem tl_case28 {N L : Nat} (hN : 3000000000 ≤ N) (hL : L ≤ 3072) (xs : Nat → Int32) (I0 : Nat → Int32) (M0 : Nat → Nat → Int32) (I1 : Nat → Int32) (L1 : Int64) (M1 : Nat → Nat → Int32) (o2 : Nat → Int64) (y4 : Int32) (hy : 0 ≤ y4.toInt ∧ y4.toInt + 6 ≤ (L : Int)) (k0 : KX11 I0 M0) (k1 : KX12 I1 M1) : wq (fL_case28 N L xs I0 M0 I1 L1 M1 o2 y4) (fun R => KX11 R.1 R.2.1 ∧ KX12 R.2.2.1 R.2.2.2.2.1) := by
  unfold fL_case28
  have i1 := lx (y := y4) (j := (1 : Int32)) 1 (by decide) (by decide) (by decide) hy hL
  have i2 := lx (y := y4) (j := (2 : Int32)) 2 (by decide) (by decide) (by decide) hy hL
  have i3 := lx (y := y4) (j := (3 : Int32)) 3 (by decide) (by decide) (by decide) hy hL
  have i4 := lx (y := y4) (j := (4 : Int32)) 4 (by decide) (by decide) (by decide) hy hL
  have i5 := lx (y := y4) (j := (5 : Int32)) 5 (by decide) (by decide) (by decide) hy hL
  refine wq_in i1 ?_
  refine wq_in i2 ?_
  refine wq_b (tl_slips hN _ _ _ _ _ k0) (fun r1 h_r1 => ?_)
  refine wq_v (fun v2 e_v2 => ?_)
  refine wq_in i1 ?_
  refine wq_in i2 ?_
  refine wq_b (tt_fX12_slips hN _ _ _ _ _ k1) (fun r3 h_r3 => ?_)
  refine wq_v (fun v4 e_v4 => ?_)
  exact wq_s ⟨h_r1, h_r3.1⟩
theorem tl_case29 {N L : Nat} (hN : 3000000000 ≤ N) (hL : L ≤ 3072) (xs : Nat → Int32) (I0 : Nat → Int32) (M0 : Nat → Nat → Int32) (I1 : Nat → Int32) (L1 : Int64) (M1 : Nat → Nat → Int32) (o2 : Nat → Int64) (y4 : Int32) (hy : 0 ≤ y4.toInt ∧ y4.toInt + 6 ≤ (L : Int)) (k0 : KX11 I0 M0) (k1 : KX12 I1 M1) : wq (fL_case29 N L xs I0 M0 I1 L1 M1 o2 y4) (fun R => KX11 R.1 R.2.1 ∧ KX12 R.2.2.1 R.2.2.2.2.1) := by
  unfold fL_case29
  have i1 := lx (y := y4) (j := (1 : Int32)) 1 (by decide) (by decide) (by decide) hy hL
  have i2 := lx (y := y4) (j := (2 : Int32)) 2 (by decide) (by decide) (by decide) hy hL
  have i3 := lx (y := y4) (j := (3 : Int32)) 3 (by decide) (by decide) (by decide) hy hL
  have i4 := lx (y := y4) (j := (4 : Int32)) 4 (by decide) (by decide) (by decide) hy hL
  have i5 := lx (y := y4) (j := (5 : Int32)) 5 (by decide) (by decide) (by decide) hy hL
  refine wq_in i1 ?_
  refine wq_in i2 ?_
  refine wq_in i3 ?_
  refine wq_b (tl_handed hN _ _ _ _ _ _ k0) (fun r1 h_r1 => ?_)
  refine wq_v (fun v2 e_v2 => ?_)
  refine wq_in i1 ?_
  refine wq_in i2 ?_
  refine wq_in i3 ?_
  refine wq_b (tt_fX12_handed hN _ _ _ _ _ _ k1) (fun r3 h_r3 => ?_)
  refine wq_v (fun v4 e_v4 => ?_)
  exact wq_s ⟨h_r1, h_r3.1⟩
theorem tl_case30 {N L : Nat} (hN : 3000000000 ≤ N) (hL : L ≤ 3072) (xs : Nat → Int32) (I0 : Nat → Int32) (M0 : Nat → Nat → Int32) (I1 : Nat → Int32) (L1 : Int64) (M1 : Nat → Nat → Int32) (o2 : Nat → Int64) (y4 : Int32) (hy : 0 ≤ y4.toInt ∧ y4.toInt + 6 ≤ (L : Int)) (k0 : KX11 I0 M0) (k1 : KX12 I1 M1) : wq (fL_case30 N L xs I0 M0 I1 L1 M1 o2 y4) (fun R => KX11 R.1 R.2.1 ∧ KX12 R.2.2.1 R.2.2.2.2.1) := by
  unfold fL_case30
  have i1 := lx (y := y4) (j := (1 : Int32)) 1 (by decide) (by decide) (by decide) hy hL
  have i2 := lx (y := y4) (j := (2 : Int32)) 2 (by decide) (by decide) (by decide) hy hL
  have i3 := lx (y := y4) (j := (3 : Int32)) 3 (by decide) (by decide) (by decide) hy hL
  have i4 := lx (y := y4) (j := (4 : Int32)) 4 (by decide) (by decide) (by decide) hy hL
  have i5 := lx (y := y4) (j := (5 : Int32)) 5 (by decide) (by decide) (by decide) hy hL
  refine wq_in i1 ?_
  refine wq_in i2 ?_
  refine wq_b (tl_leaf hN _ _ _ _ _ k0) (fun r1 h_r1 => ?_)
  refine wq_v (fun v2 e_v2 => ?_)
  refine wq_in i1 ?_
  refine wq_in i2 ?_
  refine wq_b (tt_fX12_leaf hN _ _ _ _ _ k1) (fun r3 h_r3 => ?_)
  refine wq_v (fun v4 e_v4 => ?_)
  exact wq_s ⟨h_r1, h_r3.1⟩
theorem tl_case31 {N L : Nat} (hN : 3000000000 ≤ N) (hL : L ≤ 3072) (xs : Nat → Int32) (I0 : Nat → Int32) (M0 : Nat → Nat → Int32) (I1 : Nat → Int32) (L1 : Int64) (M1 : Nat → Nat → Int32) (o2 : Nat → Int64) (y4 : Int32) (hy : 0 ≤ y4.toInt ∧ y4.toInt + 6 ≤ (L : Int)) (k0 : KX11 I0 M0) (k1 : KX12 I1 M1) : wq (fL_case31 N L xs I0 M0 I1 L1 M1 o2 y4) (fun R => KX11 R.1 R.2.1 ∧ KX12 R.2.2.1 R.2.2.2.2.1) := by
  unfold fL_case31
  have i1 := lx (y := y4) (j := (1 : Int32)) 1 (by decide) (by decide) (by decide) hy hL
  have i2 := lx (y := y4) (j := (2 : Int32)) 2 (by decide) (by decide) (by decide) hy hL
  have i3 := lx (y := y4) (j := (3 : Int32)) 3 (by decide) (by decide) (by decide) hy hL
  have i4 := lx (y := y4) (j := (4 : Int32)) 4 (by decide) (by decide) (by decide) hy hL
  have i5 := lx (y := y4) (j := (5 : Int32)) 5 (by decide) (by decide) (by decide) hy hL
  refine wq_in i1 ?_
  refine wq_in i2 ?_
  refine wq_in i3 ?_
  refine wq_b (tl_order hN _ _ _ _ _ _ k0) (fun r1 h_r1 => ?_)
  refine wq_v (fun v2 e_v2 => ?_)
  refine wq_in i1 ?_
  refine wq_in i2 ?_
  refine wq_in i3 ?_
  refine wq_b (tt_fX12_order hN _ _ _ _ _ _ k1) (fun r3 h_r3 => ?_)
  refine wq_v (fun v4 e_v4 => ?_)
  exact wq_s ⟨h_r1, h_r3.1⟩
theorem tl_case32 {N L : Nat} (hN : 3000000000 ≤ N) (hL : L ≤ 3072) (xs : Nat → Int32) (I0 : Nat → Int32) (M0 : Nat → Nat → Int32) (I1 : Nat → Int32) (L1 : Int64) (M1 : Nat → Nat → Int32) (o2 : Nat → Int64) (y4 : Int32) (hy : 0 ≤ y4.toInt ∧ y4.toInt + 6 ≤ (L : Int)) (k0 : KX11 I0 M0) (k1 : KX12 I1 M1) : wq (fL_case32 N L xs I0 M0 I1 L1 M1 o2 y4) (fun R => KX11 R.1 R.2.1 ∧ KX12 R.2.2.1 R.2.2.2.2.1) := by
  unfold fL_case32
  have i1 := lx (y := y4) (j := (1 : Int32)) 1 (by decide) (by decide) (by decide) hy hL
  have i2 := lx (y := y4) (j := (2 : Int32)) 2 (by decide) (by decide) (by decide) hy hL
  have i3 := lx (y := y4) (j := (3 : Int32)) 3 (by decide) (by decide) (by decide) hy hL
  have i4 := lx (y := y4) (j := (4 : Int32)) 4 (by decide) (by decide) (by decide) hy hL
  have i5 := lx (y := y4) (j := (5 : Int32)) 5 (by decide) (by decide) (by decide) hy hL
  refine wq_in i1 ?_
  refine wq_in i2 ?_
  refine wq_in i3 ?_
  refine wq_b (tl_same hN _ _ _ _ _ _ k0) (fun r1 h_r1 => ?_)
  refine wq_v (fun v2 e_v2 => ?_)
  refine wq_in i1 ?_
  refine wq_in i2 ?_
  refine wq_in i3 ?_
  refine wq_b (tt_fX12_same hN _ _ _ _ _ _ k1) (fun r3 h_r3 => ?_)
  refine wq_v (fun v4 e_v4 => ?_)
  exact wq_s ⟨h_r1, h_r3.2.1⟩
theorem tl_case33 {N L : Nat} (hN : 3000000000 ≤ N) (hL : L ≤ 3072) (xs : Nat → Int32) (I0 : Nat → Int32) (M0 : Nat → Nat → Int32) (I1 : Nat → Int32) (L1 : Int64) (M1 : Nat → Nat → Int32) (o2 : Nat → Int64) (y4 : Int32) (hy : 0 ≤ y4.toInt ∧ y4.toInt + 6 ≤ (L : Int)) (k0 : KX11 I0 M0) (k1 : KX12 I1 M1) : wq (fL_case33 N L xs I0 M0 I1 L1 M1 o2 y4) (fun R => KX11 R.1 R.2.1 ∧ KX12 R.2.2.1 R.2.2.2.2.1) := by
  unfold fL_case33
  have i1 := lx (y := y4) (j := (1 : Int32)) 1 (by decide) (by decide) (by decide) hy hL
  have i2 := lx (y := y4) (j := (2 : Int32)) 2 (by decide) (by decide) (by decide) hy hL
  have i3 := lx (y := y4) (j := (3 : Int32)) 3 (by decide) (by decide) (by decide) hy hL
  have i4 := lx (y := y4) (j := (4 : Int32)) 4 (by decide) (by decide) (by decide) hy hL
  have i5 := lx (y := y4) (j := (5 : Int32)) 5 (by decide) (by decide) (by decide) hy hL
  refine wq_in i1 ?_
  refine wq_in i2 ?_
  refine wq_b (tl_births hN _ _ _ _ _ k0) (fun r1 h_r1 => ?_)
  refine wq_v (fun v2 e_v2 => ?_)
  refine wq_in i1 ?_
  refine wq_in i2 ?_
  refine wq_b (tt_fX12_births hN _ _ _ _ _ k1) (fun r3 h_r3 => ?_)
  refine wq_v (fun v4 e_v4 => ?_)
  exact wq_s ⟨h_r1, h_r3.1⟩
theorem tl_case34 {N L : Nat} (hN : 3000000000 ≤ N) (hL : L ≤ 3072) (xs : Nat → Int32) (I0 : Nat → Int32) (M0 : Nat → Nat → Int32) (I1 : Nat → Int32) (L1 : Int64) (M1 : Nat → Nat → Int32) (o2 : Nat → Int64) (y4 : Int32) (hy : 0 ≤ y4.toInt ∧ y4.toInt + 6 ≤ (L : Int)) (k0 : KX11 I0 M0) (k1 : KX12 I1 M1) : wq (fL_case34 N L xs I0 M0 I1 L1 M1 o2 y4) (fun R => KX11 R.1 R.2.1 ∧ KX12 R.2.2.1 R.2.2.2.2.1) := by
  unfold fL_case34
  have i1 := lx (y := y4) (j := (1 : Int32)) 1 (by decide) (by decide) (by decide) hy hL
  have i2 := lx (y := y4) (j := (2 : Int32)) 2 (by decide) (by decide) (by decide) hy hL
  have i3 := lx (y := y4) (j := (3 : Int32)) 3 (by decide) (by decide) (by decide) hy hL
  have i4 := lx (y := y4) (j := (4 : Int32)) 4 (by decide) (by decide) (by decide) hy hL
  have i5 := lx (y := y4) (j := (5 : Int32)) 5 (by decide) (by decide) (by decide) hy hL
  refine wq_b (tt_fX11_tree hN _ _ k0) (fun r1 h_r1 => ?_)
  refine wq_b (tt_fX12_tree hN _ _ _ k1) (fun r2 h_r2 => ?_)
  exact wq_s ⟨h_r1.1, h_r2.1⟩
theorem tl_case35 {N L : Nat} (hN : 3000000000 ≤ N) (hL : L ≤ 3072) (xs : Nat → Int32) (I0 : Nat → Int32) (M0 : Nat → Nat → Int32) (I1 : Nat → Int32) (L1 : Int64) (M1 : Nat → Nat → Int32) (o2 : Nat → Int64) (y4 : Int32) (hy : 0 ≤ y4.toInt ∧ y4.toInt + 6 ≤ (L : Int)) (k0 : KX11 I0 M0) (k1 : KX12 I1 M1) : wq (fL_case35 N L xs I0 M0 I1 L1 M1 o2 y4) (fun R => KX11 R.1 R.2.1 ∧ KX12 R.2.2.1 R.2.2.2.2.1) := by
  unfold fL_case35
  have i1 := lx (y := y4) (j := (1 : Int32)) 1 (by decide) (by decide) (by decide) hy hL
  have i2 := lx (y := y4) (j := (2 : Int32)) 2 (by decide) (by decide) (by decide) hy hL
  have i3 := lx (y := y4) (j := (3 : Int32)) 3 (by decide) (by decide) (by decide) hy hL
  have i4 := lx (y := y4) (j := (4 : Int32)) 4 (by decide) (by decide) (by decide) hy hL
  have i5 := lx (y := y4) (j := (5 : Int32)) 5 (by decide) (by decide) (by decide) hy hL
  refine wq_in i1 ?_
  refine wq_b (tl_whence hN _ _ _ _ k0) (fun r1 h_r1 => ?_)
  refine wq_v (fun v2 e_v2 => ?_)
  refine wq_in i1 ?_
  refine wq_b (tt_fX12_whence hN _ _ _ _ k1) (fun r3 h_r3 => ?_)
  refine wq_v (fun v4 e_v4 => ?_)
  exact wq_s ⟨h_r1, h_r3.2.1⟩
theorem tl_case36 {N L : Nat} (hN : 3000000000 ≤ N) (hL : L ≤ 3072) (xs : Nat → Int32) (I0 : Nat → Int32) (M0 : Nat → Nat → Int32) (I1 : Nat → Int32) (L1 : Int64) (M1 : Nat → Nat → Int32) (o2 : Nat → Int64) (y4 : Int32) (hy : 0 ≤ y4.toInt ∧ y4.toInt + 6 ≤ (L : Int)) (k0 : KX11 I0 M0) (k1 : KX12 I1 M1) : wq (fL_case36 N L xs I0 M0 I1 L1 M1 o2 y4) (fun R => KX11 R.1 R.2.1 ∧ KX12 R.2.2.1 R.2.2.2.2.1) := by
  unfold fL_case36
  have i1 := lx (y := y4) (j := (1 : Int32)) 1 (by decide) (by decide) (by decide) hy hL
  have i2 := lx (y := y4) (j := (2 : Int32)) 2 (by decide) (by decide) (by decide) hy hL
  have i3 := lx (y := y4) (j := (3 : Int32)) 3 (by decide) (by decide) (by decide) hy hL
  have i4 := lx (y := y4) (j := (4 : Int32)) 4 (by decide) (by decide) (by decide) hy hL
  have i5 := lx (y := y4) (j := (5 : Int32)) 5 (by decide) (by decide) (by decide) hy hL
  refine wq_in i1 ?_
  refine wq_in i2 ?_
  refine wq_in i3 ?_
  refine wq_b (tl_life hN _ _ _ _ _ _ k0) (fun r1 h_r1 => ?_)
  refine wq_v (fun v2 e_v2 => ?_)
  refine wq_in i1 ?_
  refine wq_in i2 ?_
  refine wq_in i3 ?_
  refine wq_b (tt_fX12_life hN _ _ _ _ _ _ k1) (fun r3 h_r3 => ?_)
  refine wq_v (fun v4 e_v4 => ?_)
  exact wq_s ⟨h_r1, h_r3.2.1⟩
theorem tl_case37 {N L : Nat} (hN : 3000000000 ≤ N) (hL : L ≤ 3072) (xs : Nat → Int32) (I0 : Nat → Int32) (M0 : Nat → Nat → Int32) (I1 : Nat → Int32) (L1 : Int64) (M1 : Nat → Nat → Int32) (o2 : Nat → Int64) (y4 : Int32) (hy : 0 ≤ y4.toInt ∧ y4.toInt + 6 ≤ (L : Int)) (k0 : KX11 I0 M0) (k1 : KX12 I1 M1) : wq (fL_case37 N L xs I0 M0 I1 L1 M1 o2 y4) (fun R => KX11 R.1 R.2.1 ∧ KX12 R.2.2.1 R.2.2.2.2.1) := by
  unfold fL_case37
  have i1 := lx (y := y4) (j := (1 : Int32)) 1 (by decide) (by decide) (by decide) hy hL
  have i2 := lx (y := y4) (j := (2 : Int32)) 2 (by decide) (by decide) (by decide) hy hL
  have i3 := lx (y := y4) (j := (3 : Int32)) 3 (by decide) (by decide) (by decide) hy hL
  have i4 := lx (y := y4) (j := (4 : Int32)) 4 (by decide) (by decide) (by decide) hy hL
  have i5 := lx (y := y4) (j := (5 : Int32)) 5 (by decide) (by decide) (by decide) hy hL
  refine wq_in i1 ?_
  refine wq_in i2 ?_
  refine wq_b (tl_fate hN _ _ _ _ _ k0) (fun r1 h_r1 => ?_)
  refine wq_v (fun v2 e_v2 => ?_)
  refine wq_in i1 ?_
  refine wq_in i2 ?_
  refine wq_b (tt_fX12_fate hN _ _ _ _ _ k1) (fun r3 h_r3 => ?_)
  refine wq_v (fun v4 e_v4 => ?_)
  exact wq_s ⟨h_r1, h_r3.2.1⟩
theorem tl_case38 {N L : Nat} (hN : 3000000000 ≤ N) (hL : L ≤ 3072) (xs : Nat → Int32) (I0 : Nat → Int32) (M0 : Nat → Nat → Int32) (I1 : Nat → Int32) (L1 : Int64) (M1 : Nat → Nat → Int32) (o2 : Nat → Int64) (y4 : Int32) (hy : 0 ≤ y4.toInt ∧ y4.toInt + 6 ≤ (L : Int)) (k0 : KX11 I0 M0) (k1 : KX12 I1 M1) : wq (fL_case38 N L xs I0 M0 I1 L1 M1 o2 y4) (fun R => KX11 R.1 R.2.1 ∧ KX12 R.2.2.1 R.2.2.2.2.1) := by
  unfold fL_case38
  have i1 := lx (y := y4) (j := (1 : Int32)) 1 (by decide) (by decide) (by decide) hy hL
  have i2 := lx (y := y4) (j := (2 : Int32)) 2 (by decide) (by decide) (by decide) hy hL
  have i3 := lx (y := y4) (j := (3 : Int32)) 3 (by decide) (by decide) (by decide) hy hL
  have i4 := lx (y := y4) (j := (4 : Int32)) 4 (by decide) (by decide) (by decide) hy hL
  have i5 := lx (y := y4) (j := (5 : Int32)) 5 (by decide) (by decide) (by decide) hy hL
  refine wq_in i1 ?_
  refine wq_b (tl_fates hN _ _ _ _ k0) (fun r1 h_r1 => ?_)
  refine wq_v (fun v2 e_v2 => ?_)
  refine wq_in i1 ?_
  refine wq_b (tt_fX12_fates hN _ _ _ _ k1) (fun r3 h_r3 => ?_)
  refine wq_v (fun v4 e_v4 => ?_)
  exact wq_s ⟨h_r1, h_r3.1⟩
theorem tl_case39 {N L : Nat} (hN : 3000000000 ≤ N) (hL : L ≤ 3072) (xs : Nat → Int32) (I0 : Nat → Int32) (M0 : Nat → Nat → Int32) (I1 : Nat → Int32) (L1 : Int64) (M1 : Nat → Nat → Int32) (o2 : Nat → Int64) (y4 : Int32) (hy : 0 ≤ y4.toInt ∧ y4.toInt + 6 ≤ (L : Int)) (k0 : KX11 I0 M0) (k1 : KX12 I1 M1) : wq (fL_case39 N L xs I0 M0 I1 L1 M1 o2 y4) (fun R => KX11 R.1 R.2.1 ∧ KX12 R.2.2.1 R.2.2.2.2.1) := by
  unfold fL_case39
  have i1 := lx (y := y4) (j := (1 : Int32)) 1 (by decide) (by decide) (by decide) hy hL
  have i2 := lx (y := y4) (j := (2 : Int32)) 2 (by decide) (by decide) (by decide) hy hL
  have i3 := lx (y := y4) (j := (3 : Int32)) 3 (by decide) (by decide) (by decide) hy hL
  have i4 := lx (y := y4) (j := (4 : Int32)) 4 (by decide) (by decide) (by decide) hy hL
  have i5 := lx (y := y4) (j := (5 : Int32)) 5 (by decide) (by decide) (by decide) hy hL
  refine wq_in i1 ?_
  refine wq_in i2 ?_
  refine wq_b (tl_hits hN _ _ _ _ _ k0) (fun r1 h_r1 => ?_)
  refine wq_v (fun v2 e_v2 => ?_)
  refine wq_in i1 ?_
  refine wq_in i2 ?_
  refine wq_b (tt_fX12_hits hN _ _ _ _ _ k1) (fun r3 h_r3 => ?_)
  refine wq_v (fun v4 e_v4 => ?_)
  exact wq_s ⟨h_r1, h_r3.1⟩
set_option maxRecDepth 100000 in
theorem tl_body {N L : Nat} (hN : 3000000000 ≤ N) (hL : L ≤ 3072) (xs : Nat → Int32) (I0 : Nat → Int32) (M0 : Nat → Nat → Int32) (I1 : Nat → Int32) (L1 : Int64) (M1 : Nat → Nat → Int32) (o2 : Nat → Int64) (y4 : Int32) (hy : 0 ≤ y4.toInt ∧ y4.toInt + 6 ≤ (L : Int)) (k0 : KX11 I0 M0) (k1 : KX12 I1 M1) : wq (fL_body N L xs I0 M0 I1 L1 M1 o2 y4) (fun R => KX11 R.1 R.2.1 ∧ KX12 R.2.2.1 R.2.2.2.2.1) := by
  unfold fL_body
  refine wq_in ⟨hy.1, by omega⟩ ?_
  refine wq_i (fun _ => tl_case0 hN hL xs I0 M0 I1 L1 M1 o2 y4 hy k0 k1) (fun _ => ?_)
  refine wq_i (fun _ => tl_case1 hN hL xs I0 M0 I1 L1 M1 o2 y4 hy k0 k1) (fun _ => ?_)
  refine wq_i (fun _ => tl_case2 hN hL xs I0 M0 I1 L1 M1 o2 y4 hy k0 k1) (fun _ => ?_)
  refine wq_i (fun _ => tl_case3 hN hL xs I0 M0 I1 L1 M1 o2 y4 hy k0 k1) (fun _ => ?_)
  refine wq_i (fun _ => tl_case4 hN hL xs I0 M0 I1 L1 M1 o2 y4 hy k0 k1) (fun _ => ?_)
  refine wq_i (fun _ => tl_case5 hN hL xs I0 M0 I1 L1 M1 o2 y4 hy k0 k1) (fun _ => ?_)
  refine wq_i (fun _ => tl_case6 hN hL xs I0 M0 I1 L1 M1 o2 y4 hy k0 k1) (fun _ => ?_)
  refine wq_i (fun _ => tl_case7 hN hL xs I0 M0 I1 L1 M1 o2 y4 hy k0 k1) (fun _ => ?_)
  refine wq_i (fun _ => tl_case8 hN hL xs I0 M0 I1 L1 M1 o2 y4 hy k0 k1) (fun _ => ?_)
  refine wq_i (fun _ => tl_case9 hN hL xs I0 M0 I1 L1 M1 o2 y4 hy k0 k1) (fun _ => ?_)
  refine wq_i (fun _ => tl_case10 hN hL xs I0 M0 I1 L1 M1 o2 y4 hy k0 k1) (fun _ => ?_)
  refine wq_i (fun _ => tl_case11 hN hL xs I0 M0 I1 L1 M1 o2 y4 hy k0 k1) (fun _ => ?_)
  refine wq_i (fun _ => tl_case12 hN hL xs I0 M0 I1 L1 M1 o2 y4 hy k0 k1) (fun _ => ?_)
  refine wq_i (fun _ => tl_case13 hN hL xs I0 M0 I1 L1 M1 o2 y4 hy k0 k1) (fun _ => ?_)
  refine wq_i (fun _ => tl_case14 hN hL xs I0 M0 I1 L1 M1 o2 y4 hy k0 k1) (fun _ => ?_)
  refine wq_i (fun _ => tl_case15 hN hL xs I0 M0 I1 L1 M1 o2 y4 hy k0 k1) (fun _ => ?_)
  refine wq_i (fun _ => tl_case16 hN hL xs I0 M0 I1 L1 M1 o2 y4 hy k0 k1) (fun _ => ?_)
  refine wq_i (fun _ => tl_case17 hN hL xs I0 M0 I1 L1 M1 o2 y4 hy k0 k1) (fun _ => ?_)
  refine wq_i (fun _ => tl_case18 hN hL xs I0 M0 I1 L1 M1 o2 y4 hy k0 k1) (fun _ => ?_)
  refine wq_i (fun _ => tl_case19 hN hL xs I0 M0 I1 L1 M1 o2 y4 hy k0 k1) (fun _ => ?_)
  refine wq_i (fun _ => tl_case20 hN hL xs I0 M0 I1 L1 M1 o2 y4 hy k0 k1) (fun _ => ?_)
  refine wq_i (fun _ => tl_case21 hN hL xs I0 M0 I1 L1 M1 o2 y4 hy k0 k1) (fun _ => ?_)
  refine wq_i (fun _ => tl_case22 hN hL xs I0 M0 I1 L1 M1 o2 y4 hy k0 k1) (fun _ => ?_)
  refine wq_i (fun _ => tl_case23 hN hL xs I0 M0 I1 L1 M1 o2 y4 hy k0 k1) (fun _ => ?_)
  refine wq_i (fun _ => tl_case24 hN hL xs I0 M0 I1 L1 M1 o2 y4 hy k0 k1) (fun _ => ?_)
  refine wq_i (fun _ => tl_case25 hN hL xs I0 M0 I1 L1 M1 o2 y4 hy k0 k1) (fun _ => ?_)
  refine wq_i (fun _ => tl_case26 hN hL xs I0 M0 I1 L1 M1 o2 y4 hy k0 k1) (fun _ => ?_)
  refine wq_i (fun _ => tl_case27 hN hL xs I0 M0 I1 L1 M1 o2 y4 hy k0 k1) (fun _ => ?_)
  refine wq_i (fun _ => tl_case28 hN hL xs I0 M0 I1 L1 M1 o2 y4 hy k0 k1) (fun _ => ?_)
  refine wq_i (fun _ => tl_case29 hN hL xs I0 M0 I1 L1 M1 o2 y4 hy k0 k1) (fun _ => ?_)
  refine wq_i (fun _ => tl_case30 hN hL xs I0 M0 I1 L1 M1 o2 y4 hy k0 k1) (fun _ => ?_)
  refine wq_i (fun _ => tl_case31 hN hL xs I0 M0 I1 L1 M1 o2 y4 hy k0 k1) (fun _ => ?_)
  refine wq_i (fun _ => tl_case32 hN hL xs I0 M0 I1 L1 M1 o2 y4 hy k0 k1) (fun _ => ?_)
  refine wq_i (fun _ => tl_case33 hN hL xs I0 M0 I1 L1 M1 o2 y4 hy k0 k1) (fun _ => ?_)
  refine wq_i (fun _ => tl_case34 hN hL xs I0 M0 I1 L1 M1 o2 y4 hy k0 k1) (fun _ => ?_)
  refine wq_i (fun _ => tl_case35 hN hL xs I0 M0 I1 L1 M1 o2 y4 hy k0 k1) (fun _ => ?_)
  refine wq_i (fun _ => tl_case36 hN hL xs I0 M0 I1 L1 M1 o2 y4 hy k0 k1) (fun _ => ?_)
  refine wq_i (fun _ => tl_case37 hN hL xs I0 M0 I1 L1 M1 o2 y4 hy k0 k1) (fun _ => ?_)
  refine wq_i (fun _ => tl_case38 hN hL xs I0 M0 I1 L1 M1 o2 y4 hy k0 k1) (fun _ => ?_)
  refine wq_i (fun _ => tl_case39 hN hL xs I0 M0 I1 L1 M1 o2 y4 hy k0 k1) (fun _ => ?_)
  exact wq_s ⟨k0, k1⟩

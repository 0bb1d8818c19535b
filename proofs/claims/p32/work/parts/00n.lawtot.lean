theorem lx {y j : Int32} {L : Nat} (n : Int) (hj : j.toInt = n) (h0 : 0 ≤ n) (h5 : n ≤ 5) (hy : 0 ≤ y.toInt ∧ y.toInt + 6 ≤ (L : Int)) (hL : L ≤ 3072) : 0 ≤ (y + j).toInt ∧ (y + j).toInt < (L : Int) := by
  have t := ia_add y j (by omega) (by omega)
  omega
theorem tl_house {N : Nat} (hN : 3000000000 ≤ N) (I0 : Nat → Int32) (M0 : Nat → Nat → Int32) (x1 : Int32) (o2 : Nat → Int64) (k0 : KX11 I0 M0) : wq (fL_house N I0 M0 x1 o2) (fun r => KX11 r.2.1 r.2.2.1) := by
  unfold fL_house
  obtain ⟨r, e, h⟩ := tt_fX11_house hN I0 M0 x1 k0
  rw [e]
  cases r with
  | inl k =>
    have h : qE 2 k := h
    unfold qE at h
    have h : k = 2 := by omega
    subst h
    exact ⟨_, rfl, k0⟩
  | inr r =>
    exact ⟨_, rfl, h.1⟩
theorem tl_wheel {N : Nat} (hN : 3000000000 ≤ N) (I0 : Nat → Int32) (M0 : Nat → Nat → Int32) (x1 : Int32) (x2 : Int32) (x3 : Int32) (o4 : Nat → Int64) (k0 : KX11 I0 M0) : wq (fL_wheel N I0 M0 x1 x2 x3 o4) (fun r => KX11 r.2.1 r.2.2.1) := by
  unfold fL_wheel
  obtain ⟨r, e, h⟩ := tt_fX11_wheel hN I0 M0 x1 x2 x3 k0
  rw [e]
  cases r with
  | inl k =>
    have h : qE 3 k := h
    unfold qE at h
    have h : k = 1 ∨ k = 2 := by omega
    rcases h with h | h
    · subst h; exact ⟨_, rfl, k0⟩
    · subst h; exact ⟨_, rfl, k0⟩
  | inr r =>
    exact ⟨_, rfl, h.1⟩
theorem tl_count {N : Nat} (hN : 3000000000 ≤ N) (I0 : Nat → Int32) (M0 : Nat → Nat → Int32) (x1 : Int32) (o2 : Nat → Int64) (k0 : KX11 I0 M0) : wq (fL_count N I0 M0 x1 o2) (fun r => KX11 r.2.1 r.2.2.1) := by
  unfold fL_count
  obtain ⟨r, e, h⟩ := tt_fX11_count hN I0 M0 x1 k0
  rw [e]
  cases r with
  | inl k =>
    have h : qE 1 k := h
    unfold qE at h
    have h : k = 1 := by omega
    subst h
    exact ⟨_, rfl, k0⟩
  | inr r =>
    exact ⟨_, rfl, h.1⟩
theorem tl_place {N : Nat} (hN : 3000000000 ≤ N) (I0 : Nat → Int32) (M0 : Nat → Nat → Int32) (x1 : Int32) (x2 : Int32) (x3 : Int32) (o4 : Nat → Int64) (k0 : KX11 I0 M0) : wq (fL_place N I0 M0 x1 x2 x3 o4) (fun r => KX11 r.2.1 r.2.2.1) := by
  unfold fL_place
  obtain ⟨r, e, h⟩ := tt_fX11_place hN I0 M0 x1 x2 x3 k0
  rw [e]
  cases r with
  | inl k =>
    have h : qE 1 k := h
    unfold qE at h
    have h : k = 1 := by omega
    subst h
    exact ⟨_, rfl, k0⟩
  | inr r =>
    exact ⟨_, rfl, k0⟩
theorem tl_entry {N : Nat} (hN : 3000000000 ≤ N) (I0 : Nat → Int32) (M0 : Nat → Nat → Int32) (x1 : Int32) (x2 : Int32) (x3 : Int32) (o4 : Nat → Int64) (k0 : KX11 I0 M0) : wq (fL_entry N I0 M0 x1 x2 x3 o4) (fun r => KX11 r.2.1 r.2.2.1) := by
  unfold fL_entry
  obtain ⟨r, e, h⟩ := tt_fX11_entry hN I0 M0 x1 x2 x3 k0
  rw [e]
  cases r with
  | inl k =>
    have h : qE 1 k := h
    unfold qE at h
    have h : k = 1 := by omega
    subst h
    exact ⟨_, rfl, k0⟩
  | inr r =>
    exact ⟨_, rfl, k0⟩
theorem tl_cost {N : Nat} (hN : 3000000000 ≤ N) (I0 : Nat → Int32) (M0 : Nat → Nat → Int32) (x1 : Int32) (x2 : Int32) (x3 : Int32) (x4 : Int32) (o5 : Nat → Int64) (k0 : KX11 I0 M0) : wq (fL_cost N I0 M0 x1 x2 x3 x4 o5) (fun r => KX11 r.2.1 r.2.2.1) := by
  unfold fL_cost
  obtain ⟨r, e, h⟩ := tt_fX11_cost hN I0 M0 x1 x2 x3 x4 k0
  rw [e]
  cases r with
  | inl k =>
    have h : qE 1 k := h
    unfold qE at h
    have h : k = 1 := by omega
    subst h
    exact ⟨_, rfl, k0⟩
  | inr r =>
    exact ⟨_, rfl, k0⟩
theorem tl_best {N : Nat} (hN : 3000000000 ≤ N) (I0 : Nat → Int32) (M0 : Nat → Nat → Int32) (x1 : Int32) (x2 : Int32) (x3 : Int32) (x4 : Int32) (x5 : Int32) (o6 : Nat → Int64) (k0 : KX11 I0 M0) : wq (fL_best N I0 M0 x1 x2 x3 x4 x5 o6) (fun r => KX11 r.2.1 r.2.2.1) := by
  unfold fL_best
  obtain ⟨r, e, h⟩ := tt_fX11_best hN I0 M0 x1 x2 x3 x4 x5 k0
  rw [e]
  cases r with
  | inl k =>
    have h : qE 3 k := h
    unfold qE at h
    have h : k = 1 ∨ k = 2 := by omega
    rcases h with h | h
    · subst h; exact ⟨_, rfl, k0⟩
    · subst h; exact ⟨_, rfl, k0⟩
  | inr r =>
    exact ⟨_, rfl, h.1⟩
theorem tl_day {N : Nat} (hN : 3000000000 ≤ N) (I0 : Nat → Int32) (M0 : Nat → Nat → Int32) (x1 : Int32) (o2 : Nat → Int64) (k0 : KX11 I0 M0) : wq (fL_day N I0 M0 x1 o2) (fun r => KX11 r.2.1 r.2.2.1) := by
  unfold fL_day
  obtain ⟨r, e, h⟩ := tt_fX11_day hN I0 M0 x1 k0
  rw [e]
  cases r with
  | inl k =>
    have h : qE 1 k := h
    unfold qE at h
    have h : k = 1 := by omega
    subst h
    exact ⟨_, rfl, k0⟩
  | inr r =>
    exact ⟨_, rfl, k0⟩
theorem tl_whose {N : Nat} (hN : 3000000000 ≤ N) (I0 : Nat → Int32) (M0 : Nat → Nat → Int32) (x1 : Int32) (x2 : Int32) (x3 : Int32) (x4 : Int32) (x5 : Int32) (o6 : Nat → Int64) (k0 : KX11 I0 M0) : wq (fL_whose N I0 M0 x1 x2 x3 x4 x5 o6) (fun r => KX11 r.2.1 r.2.2.1) := by
  unfold fL_whose
  obtain ⟨r, e, h⟩ := tt_fX11_whose hN I0 M0 x1 x2 x3 x4 x5 k0
  rw [e]
  cases r with
  | inl k =>
    have h : qE 3 k := h
    unfold qE at h
    have h : k = 1 ∨ k = 2 := by omega
    rcases h with h | h
    · subst h; exact ⟨_, rfl, k0⟩
    · subst h; exact ⟨_, rfl, k0⟩
  | inr r =>
    exact ⟨_, rfl, h.1⟩
theorem tl_mixed {N : Nat} (hN : 3000000000 ≤ N) (I0 : Nat → Int32) (M0 : Nat → Nat → Int32) (x1 : Int32) (x2 : Int32) (x3 : Int32) (x4 : Int32) (o5 : Nat → Int64) (k0 : KX11 I0 M0) : wq (fL_mixed N I0 M0 x1 x2 x3 x4 o5) (fun r => KX11 r.2.1 r.2.2.1) := by
  unfold fL_mixed
  obtain ⟨r, e, h⟩ := tt_fX11_mixed hN I0 M0 x1 x2 x3 x4 k0
  rw [e]
  cases r with
  | inl k =>
    have h : qE 3 k := h
    unfold qE at h
    have h : k = 1 ∨ k = 2 := by omega
    rcases h with h | h
    · subst h; exact ⟨_, rfl, k0⟩
    · subst h; exact ⟨_, rfl, k0⟩
  | inr r =>
    exact ⟨_, rfl, k0⟩
theorem tl_climb {N : Nat} (hN : 3000000000 ≤ N) (I0 : Nat → Int32) (M0 : Nat → Nat → Int32) (x1 : Int32) (x2 : Int32) (o3 : Nat → Int64) (k0 : KX11 I0 M0) : wq (fL_climb N I0 M0 x1 x2 o3) (fun r => KX11 r.2.1 r.2.2.1) := by
  unfold fL_climb
  obtain ⟨r, e, h⟩ := tt_fX11_climb hN I0 M0 x1 x2 k0
  rw [e]
  cases r with
  | inl k =>
    have h : qE 1 k := h
    unfold qE at h
    have h : k = 1 := by omega
    subst h
    exact ⟨_, rfl, k0⟩
  | inr r =>
    exact ⟨_, rfl, k0⟩
theorem tl_rise {N : Nat} (hN : 3000000000 ≤ N) (I0 : Nat → Int32) (M0 : Nat → Nat → Int32) (x1 : Int32) (x2 : Int32) (x3 : Int32) (o4 : Nat → Int64) (k0 : KX11 I0 M0) : wq (fL_rise N I0 M0 x1 x2 x3 o4) (fun r => KX11 r.2.1 r.2.2.1) := by
  unfold fL_rise
  obtain ⟨r, e, h⟩ := tt_fX11_rise hN I0 M0 x1 x2 x3 k0
  rw [e]
  cases r with
  | inl k =>
    have h : qE 1 k := h
    unfold qE at h
    have h : k = 1 := by omega
    subst h
    exact ⟨_, rfl, k0⟩
  | inr r =>
    exact ⟨_, rfl, k0⟩
theorem tl_middle {N : Nat} (hN : 3000000000 ≤ N) (I0 : Nat → Int32) (M0 : Nat → Nat → Int32) (x1 : Int32) (x2 : Int32) (o3 : Nat → Int64) (k0 : KX11 I0 M0) : wq (fL_middle N I0 M0 x1 x2 o3) (fun r => KX11 r.2.1 r.2.2.1) := by
  unfold fL_middle
  obtain ⟨r, e, h⟩ := tt_fX11_middle hN I0 M0 x1 x2 k0
  rw [e]
  cases r with
  | inl k =>
    have h : qE 1 k := h
    unfold qE at h
    have h : k = 1 := by omega
    subst h
    exact ⟨_, rfl, k0⟩
  | inr r =>
    exact ⟨_, rfl, k0⟩
theorem tl_hour {N : Nat} (hN : 3000000000 ≤ N) (I0 : Nat → Int32) (M0 : Nat → Nat → Int32) (x1 : Int32) (x2 : Int32) (x3 : Int32) (o4 : Nat → Int64) (k0 : KX11 I0 M0) : wq (fL_hour N I0 M0 x1 x2 x3 o4) (fun r => KX11 r.2.1 r.2.2.1) := by
  unfold fL_hour
  obtain ⟨r, e, h⟩ := tt_fX11_hour hN I0 M0 x1 x2 x3 k0
  rw [e]
  cases r with
  | inl k =>
    have h : qE 1 k := h
    unfold qE at h
    have h : k = 1 := by omega
    subst h
    exact ⟨_, rfl, k0⟩
  | inr r =>
    exact ⟨_, rfl, k0⟩
theorem tl_houseOf {N : Nat} (hN : 3000000000 ≤ N) (I0 : Nat → Int32) (M0 : Nat → Nat → Int32) (x1 : Int32) (x2 : Int32) (x3 : Int32) (x4 : Int32) (o5 : Nat → Int64) (k0 : KX11 I0 M0) : wq (fL_houseOf N I0 M0 x1 x2 x3 x4 o5) (fun r => KX11 r.2.1 r.2.2.1) := by
  unfold fL_houseOf
  obtain ⟨r, e, h⟩ := tt_fX11_houseOf hN I0 M0 x1 x2 x3 x4 k0
  rw [e]
  cases r with
  | inl k =>
    have h : qE 1 k := h
    unfold qE at h
    have h : k = 1 := by omega
    subst h
    exact ⟨_, rfl, k0⟩
  | inr r =>
    exact ⟨_, rfl, k0⟩
theorem tl_agree {N : Nat} (hN : 3000000000 ≤ N) (I0 : Nat → Int32) (M0 : Nat → Nat → Int32) (x1 : Int32) (x2 : Int32) (x3 : Int32) (x4 : Int32) (o5 : Nat → Int64) (k0 : KX11 I0 M0) : wq (fL_agree N I0 M0 x1 x2 x3 x4 o5) (fun r => KX11 r.2.1 r.2.2.1) := by
  unfold fL_agree
  obtain ⟨r, e, h⟩ := tt_fX11_agree hN I0 M0 x1 x2 x3 x4 k0
  rw [e]
  cases r with
  | inl k =>
    have h : qE 1 k := h
    unfold qE at h
    have h : k = 1 := by omega
    subst h
    exact ⟨_, rfl, k0⟩
  | inr r =>
    exact ⟨_, rfl, k0⟩
theorem tl_lot {N : Nat} (hN : 3000000000 ≤ N) (I0 : Nat → Int32) (M0 : Nat → Nat → Int32) (x1 : Int32) (x2 : Int32) (x3 : Int32) (o4 : Nat → Int64) (k0 : KX11 I0 M0) : wq (fL_lot N I0 M0 x1 x2 x3 o4) (fun r => KX11 r.2.1 r.2.2.1) := by
  unfold fL_lot
  obtain ⟨r, e, h⟩ := tt_fX11_lot hN I0 M0 x1 x2 x3 k0
  rw [e]
  cases r with
  | inl k =>
    have h : qE 1 k := h
    unfold qE at h
    have h : k = 1 := by omega
    subst h
    exact ⟨_, rfl, k0⟩
  | inr r =>
    exact ⟨_, rfl, k0⟩
theorem tl_price {N : Nat} (hN : 3000000000 ≤ N) (I0 : Nat → Int32) (M0 : Nat → Nat → Int32) (x1 : Int32) (x2 : Int32) (o3 : Nat → Int64) (k0 : KX11 I0 M0) : wq (fL_price N I0 M0 x1 x2 o3) (fun r => KX11 r.2.1 r.2.2.1) := by
  unfold fL_price
  obtain ⟨r, e, h⟩ := tt_fX11_price hN I0 M0 x1 x2 k0
  rw [e]
  cases r with
  | inl k =>
    have h : qE 1 k := h
    unfold qE at h
    have h : k = 1 := by omega
    subst h
    exact ⟨_, rfl, k0⟩
  | inr r =>
    exact ⟨_, rfl, k0⟩
theorem tl_seek {N : Nat} (hN : 3000000000 ≤ N) (I0 : Nat → Int32) (M0 : Nat → Nat → Int32) (x1 : Int32) (x2 : Int32) (x3 : Int32) (x4 : Int32) (k0 : KX11 I0 M0) : wq (fL_seek N I0 M0 x1 x2 x3 x4) (fun r => KX11 r.2.1 r.2.2) := by
  unfold fL_seek
  obtain ⟨r, e, h⟩ := tt_fX11_seek hN I0 M0 x1 x2 x3 x4 k0
  rw [e]
  cases r with
  | inl k =>
    have h : qE 1 k := h
    unfold qE at h
    have h : k = 1 := by omega
    subst h
    exact ⟨_, rfl, k0⟩
  | inr r =>
    exact ⟨_, rfl, h.1⟩
theorem tl_on {N : Nat} (hN : 3000000000 ≤ N) (I0 : Nat → Int32) (M0 : Nat → Nat → Int32) (x1 : Int32) (o2 : Nat → Int64) (k0 : KX11 I0 M0) : wq (fL_on N I0 M0 x1 o2) (fun r => KX11 r.2.1 r.2.2.1) := by
  unfold fL_on
  obtain ⟨r, e, h⟩ := tt_fX11_on hN I0 M0 x1 k0
  rw [e]
  cases r with
  | inl k =>
    have h : qE 3 k := h
    unfold qE at h
    have h : k = 1 ∨ k = 2 := by omega
    rcases h with h | h
    · subst h; exact ⟨_, rfl, k0⟩
    · subst h; exact ⟨_, rfl, k0⟩
  | inr r =>
    exact ⟨_, rfl, h.1⟩
theorem tl_held {N : Nat} (hN : 3000000000 ≤ N) (I0 : Nat → Int32) (M0 : Nat → Nat → Int32) (x1 : Int32) (o2 : Nat → Int64) (k0 : KX11 I0 M0) : wq (fL_held N I0 M0 x1 o2) (fun r => KX11 r.2.1 r.2.2.1) := by
  unfold fL_held
  obtain ⟨r, e, h⟩ := tt_fX11_held hN I0 M0 x1 k0
  rw [e]
  cases r with
  | inl k =>
    have h : qE 1 k := h
    unfold qE at h
    have h : k = 1 := by omega
    subst h
    exact ⟨_, rfl, k0⟩
  | inr r =>
    exact ⟨_, rfl, k0⟩
theorem tl_misread {N : Nat} (hN : 3000000000 ≤ N) (I0 : Nat → Int32) (M0 : Nat → Nat → Int32) (x1 : Int32) (x2 : Int32) (x3 : Int32) (x4 : Int32) (x5 : Int32) (o6 : Nat → Int64) (k0 : KX11 I0 M0) : wq (fL_misread N I0 M0 x1 x2 x3 x4 x5 o6) (fun r => KX11 r.2.1 r.2.2.1) := by
  unfold fL_misread
  obtain ⟨r, e, h⟩ := tt_fX11_misread hN I0 M0 x1 x2 x3 x4 x5 k0
  rw [e]
  cases r with
  | inl k =>
    have h : qE 1 k := h
    unfold qE at h
    have h : k = 1 := by omega
    subst h
    exact ⟨_, rfl, k0⟩
  | inr r =>
    exact ⟨_, rfl, k0⟩
theorem tl_errors {N : Nat} (hN : 3000000000 ≤ N) (I0 : Nat → Int32) (M0 : Nat → Nat → Int32) (x1 : Int32) (x2 : Int32) (x3 : Int32) (x4 : Int32) (o5 : Nat → Int64) (k0 : KX11 I0 M0) : wq (fL_errors N I0 M0 x1 x2 x3 x4 o5) (fun r => KX11 r.2.1 r.2.2.1) := by
  unfold fL_errors
  obtain ⟨r, e, h⟩ := tt_fX11_errors hN I0 M0 x1 x2 x3 x4 k0
  rw [e]
  cases r with
  | inl k =>
    have h : qE 1 k := h
    unfold qE at h
    have h : k = 1 := by omega
    subst h
    exact ⟨_, rfl, k0⟩
  | inr r =>
    exact ⟨_, rfl, h.1⟩
theorem tl_possible {N : Nat} (hN : 3000000000 ≤ N) (I0 : Nat → Int32) (M0 : Nat → Nat → Int32) (x1 : Int32) (x2 : Int32) (x3 : Int32) (o4 : Nat → Int64) (k0 : KX11 I0 M0) : wq (fL_possible N I0 M0 x1 x2 x3 o4) (fun r => KX11 r.2.1 r.2.2.1) := by
  unfold fL_possible
  obtain ⟨r, e, h⟩ := tt_fX11_possible hN I0 M0 x1 x2 x3 k0
  rw [e]
  cases r with
  | inl k =>
    have h : qE 1 k := h
    unfold qE at h
    have h : k = 1 := by omega
    subst h
    exact ⟨_, rfl, k0⟩
  | inr r =>
    exact ⟨_, rfl, k0⟩
theorem tl_slips {N : Nat} (hN : 3000000000 ≤ N) (I0 : Nat → Int32) (M0 : Nat → Nat → Int32) (x1 : Int32) (x2 : Int32) (o3 : Nat → Int64) (k0 : KX11 I0 M0) : wq (fL_slips N I0 M0 x1 x2 o3) (fun r => KX11 r.2.1 r.2.2.1) := by
  unfold fL_slips
  obtain ⟨r, e, h⟩ := tt_fX11_slips hN I0 M0 x1 x2 k0
  rw [e]
  cases r with
  | inl k =>
    have h : qE 1 k := h
    unfold qE at h
    have h : k = 1 := by omega
    subst h
    exact ⟨_, rfl, k0⟩
  | inr r =>
    exact ⟨_, rfl, k0⟩
theorem tl_handed {N : Nat} (hN : 3000000000 ≤ N) (I0 : Nat → Int32) (M0 : Nat → Nat → Int32) (x1 : Int32) (x2 : Int32) (x3 : Int32) (o4 : Nat → Int64) (k0 : KX11 I0 M0) : wq (fL_handed N I0 M0 x1 x2 x3 o4) (fun r => KX11 r.2.1 r.2.2.1) := by
  unfold fL_handed
  obtain ⟨r, e, h⟩ := tt_fX11_handed hN I0 M0 x1 x2 x3 k0
  rw [e]
  cases r with
  | inl k =>
    have h : qE 1 k := h
    unfold qE at h
    have h : k = 1 := by omega
    subst h
    exact ⟨_, rfl, k0⟩
  | inr r =>
    exact ⟨_, rfl, k0⟩
theorem tl_leaf {N : Nat} (hN : 3000000000 ≤ N) (I0 : Nat → Int32) (M0 : Nat → Nat → Int32) (x1 : Int32) (x2 : Int32) (o3 : Nat → Int64) (k0 : KX11 I0 M0) : wq (fL_leaf N I0 M0 x1 x2 o3) (fun r => KX11 r.2.1 r.2.2.1) := by
  unfold fL_leaf
  obtain ⟨r, e, h⟩ := tt_fX11_leaf hN I0 M0 x1 x2 k0
  rw [e]
  cases r with
  | inl k =>
    have h : qE 1 k := h
    unfold qE at h
    have h : k = 1 := by omega
    subst h
    exact ⟨_, rfl, k0⟩
  | inr r =>
    exact ⟨_, rfl, h.2.1⟩
theorem tl_order {N : Nat} (hN : 3000000000 ≤ N) (I0 : Nat → Int32) (M0 : Nat → Nat → Int32) (x1 : Int32) (x2 : Int32) (x3 : Int32) (o4 : Nat → Int64) (k0 : KX11 I0 M0) : wq (fL_order N I0 M0 x1 x2 x3 o4) (fun r => KX11 r.2.1 r.2.2.1) := by
  unfold fL_order
  obtain ⟨r, e, h⟩ := tt_fX11_order hN I0 M0 x1 x2 x3 k0
  rw [e]
  cases r with
  | inl k =>
    have h : qE 1 k := h
    unfold qE at h
    have h : k = 1 := by omega
    subst h
    exact ⟨_, rfl, k0⟩
  | inr r =>
    exact ⟨_, rfl, h.1⟩
theorem tl_same {N : Nat} (hN : 3000000000 ≤ N) (I0 : Nat → Int32) (M0 : Nat → Nat → Int32) (x1 : Int32) (x2 : Int32) (x3 : Int32) (o4 : Nat → Int64) (k0 : KX11 I0 M0) : wq (fL_same N I0 M0 x1 x2 x3 o4) (fun r => KX11 r.2.1 r.2.2.1) := by
  unfold fL_same
  obtain ⟨r, e, h⟩ := tt_fX11_same hN I0 M0 x1 x2 x3 k0
  rw [e]
  cases r with
  | inl k =>
    have h : qE 1 k := h
    unfold qE at h
    have h : k = 1 := by omega
    subst h
    exact ⟨_, rfl, k0⟩
  | inr r =>
    show wq (if _ then _ else _) _
    exact wq_i (fun _ => ⟨_, rfl, k0⟩) (fun _ => ⟨_, rfl, k0⟩)
theorem tl_births {N : Nat} (hN : 3000000000 ≤ N) (I0 : Nat → Int32) (M0 : Nat → Nat → Int32) (x1 : Int32) (x2 : Int32) (o3 : Nat → Int64) (k0 : KX11 I0 M0) : wq (fL_births N I0 M0 x1 x2 o3) (fun r => KX11 r.2.1 r.2.2.1) := by
  unfold fL_births
  obtain ⟨r, e, h⟩ := tt_fX11_births hN I0 M0 x1 x2 k0
  rw [e]
  cases r with
  | inl k =>
    have h : qE 1 k := h
    unfold qE at h
    have h : k = 1 := by omega
    subst h
    exact ⟨_, rfl, k0⟩
  | inr r =>
    exact ⟨_, rfl, h.1⟩
theorem tl_whence {N : Nat} (hN : 3000000000 ≤ N) (I0 : Nat → Int32) (M0 : Nat → Nat → Int32) (x1 : Int32) (o2 : Nat → Int64) (k0 : KX11 I0 M0) : wq (fL_whence N I0 M0 x1 o2) (fun r => KX11 r.2.1 r.2.2.1) := by
  unfold fL_whence
  obtain ⟨r, e, h⟩ := tt_fX11_whence hN I0 M0 x1 k0
  rw [e]
  cases r with
  | inl k =>
    have h : qE 1 k := h
    unfold qE at h
    have h : k = 1 := by omega
    subst h
    exact ⟨_, rfl, k0⟩
  | inr r =>
    exact ⟨_, rfl, k0⟩
theorem tl_life {N : Nat} (hN : 3000000000 ≤ N) (I0 : Nat → Int32) (M0 : Nat → Nat → Int32) (x1 : Int32) (x2 : Int32) (x3 : Int32) (o4 : Nat → Int64) (k0 : KX11 I0 M0) : wq (fL_life N I0 M0 x1 x2 x3 o4) (fun r => KX11 r.2.1 r.2.2.1) := by
  unfold fL_life
  obtain ⟨r, e, h⟩ := tt_fX11_life hN I0 M0 x1 x2 x3 k0
  rw [e]
  cases r with
  | inl k =>
    have h : qE 1 k := h
    unfold qE at h
    have h : k = 1 := by omega
    subst h
    exact ⟨_, rfl, k0⟩
  | inr r =>
    show wq (if _ then _ else _) _
    exact wq_i (fun _ => ⟨_, rfl, h.2.1⟩) (fun _ => ⟨_, rfl, h.2.1⟩)
theorem tl_fate {N : Nat} (hN : 3000000000 ≤ N) (I0 : Nat → Int32) (M0 : Nat → Nat → Int32) (x1 : Int32) (x2 : Int32) (o3 : Nat → Int64) (k0 : KX11 I0 M0) : wq (fL_fate N I0 M0 x1 x2 o3) (fun r => KX11 r.2.1 r.2.2.1) := by
  unfold fL_fate
  obtain ⟨r, e, h⟩ := tt_fX11_fate hN I0 M0 x1 x2 k0
  rw [e]
  cases r with
  | inl k =>
    have h : qE 1 k := h
    unfold qE at h
    have h : k = 1 := by omega
    subst h
    exact ⟨_, rfl, k0⟩
  | inr r =>
    show wq (if _ then _ else _) _
    exact wq_i (fun _ => ⟨_, rfl, h.2.1⟩) (fun _ => ⟨_, rfl, h.2.1⟩)
theorem tl_fates {N : Nat} (hN : 3000000000 ≤ N) (I0 : Nat → Int32) (M0 : Nat → Nat → Int32) (x1 : Int32) (o2 : Nat → Int64) (k0 : KX11 I0 M0) : wq (fL_fates N I0 M0 x1 o2) (fun r => KX11 r.2.1 r.2.2.1) := by
  unfold fL_fates
  obtain ⟨r, e, h⟩ := tt_fX11_fates hN I0 M0 x1 k0
  rw [e]
  cases r with
  | inl k =>
    have h : qE 1 k := h
    unfold qE at h
    have h : k = 1 := by omega
    subst h
    exact ⟨_, rfl, k0⟩
  | inr r =>
    exact ⟨_, rfl, h.1⟩
theorem tl_hits {N : Nat} (hN : 3000000000 ≤ N) (I0 : Nat → Int32) (M0 : Nat → Nat → Int32) (x1 : Int32) (x2 : Int32) (o3 : Nat → Int64) (k0 : KX11 I0 M0) : wq (fL_hits N I0 M0 x1 x2 o3) (fun r => KX11 r.2.1 r.2.2.1) := by
  unfold fL_hits
  obtain ⟨r, e, h⟩ := tt_fX11_hits hN I0 M0 x1 x2 k0
  rw [e]
  cases r with
  | inl k =>
    have h : qE 1 k := h
    unfold qE at h
    have h : k = 1 := by omega
    subst h
    exact ⟨_, rfl, k0⟩
  | inr r =>
    exact ⟨_, rfl, h.1⟩
theorem tl_case0 {N L : Nat} (hN : 3000000000 ≤ N) (hL : L ≤ 3072) (xs : Nat → Int32) (I0 : Nat → Int32) (M0 : Nat → Nat → Int32) (I1 : Nat → Int32) (L1 : Int64) (M1 : Nat → Nat → Int32) (o2 : Nat → Int64) (y4 : Int32) (hy : 0 ≤ y4.toInt ∧ y4.toInt + 6 ≤ (L : Int)) (k0 : KX11 I0 M0) (k1 : KX12 I1 M1) (hr : RQ I0 M0 I1 M1) : wq (fL_case0 N L xs I0 M0 I1 L1 M1 o2 y4) (fun R => KX11 R.1 R.2.1 ∧ KX12 R.2.2.1 R.2.2.2.2.1 ∧ RQ R.1 R.2.1 R.2.2.1 R.2.2.2.2.1) := by
  unfold fL_case0
  have i1 := lx (y := y4) (j := (1 : Int32)) 1 (by decide) (by decide) (by decide) hy hL
  have i2 := lx (y := y4) (j := (2 : Int32)) 2 (by decide) (by decide) (by decide) hy hL
  have i3 := lx (y := y4) (j := (3 : Int32)) 3 (by decide) (by decide) (by decide) hy hL
  have i4 := lx (y := y4) (j := (4 : Int32)) 4 (by decide) (by decide) (by decide) hy hL
  have i5 := lx (y := y4) (j := (5 : Int32)) 5 (by decide) (by decide) (by decide) hy hL
  refine wq_in i1 ?_
  refine wq_in i2 ?_
  refine wq_in i3 ?_
  refine wq_in i4 ?_
  refine wq_in i5 ?_
  refine wq_eb (tt_fX11_feed hN _ _ _ _ _ _ _ k0) (fun r1 e_r1 h_r1 => ?_)
  refine wq_in i1 ?_
  refine wq_in i2 ?_
  refine wq_in i3 ?_
  refine wq_in i4 ?_
  refine wq_in i5 ?_
  refine wq_eb (tt_fX12_feed hN _ _ _ _ _ _ _ _ k1) (fun r2 e_r2 h_r2 => ?_)
  exact wq_s ⟨h_r1.2.1, h_r2.2.1, rq_feed hN e_r1 e_r2 k0 k1 hr⟩
theorem tl_case1 {N L : Nat} (hN : 3000000000 ≤ N) (hL : L ≤ 3072) (xs : Nat → Int32) (I0 : Nat → Int32) (M0 : Nat → Nat → Int32) (I1 : Nat → Int32) (L1 : Int64) (M1 : Nat → Nat → Int32) (o2 : Nat → Int64) (y4 : Int32) (hy : 0 ≤ y4.toInt ∧ y4.toInt + 6 ≤ (L : Int)) (k0 : KX11 I0 M0) (k1 : KX12 I1 M1) (hr : RQ I0 M0 I1 M1) : wq (fL_case1 N L xs I0 M0 I1 L1 M1 o2 y4) (fun R => KX11 R.1 R.2.1 ∧ KX12 R.2.2.1 R.2.2.2.2.1 ∧ RQ R.1 R.2.1 R.2.2.1 R.2.2.2.2.1) := by
  unfold fL_case1
  have i1 := lx (y := y4) (j := (1 : Int32)) 1 (by decide) (by decide) (by decide) hy hL
  have i2 := lx (y := y4) (j := (2 : Int32)) 2 (by decide) (by decide) (by decide) hy hL
  have i3 := lx (y := y4) (j := (3 : Int32)) 3 (by decide) (by decide) (by decide) hy hL
  have i4 := lx (y := y4) (j := (4 : Int32)) 4 (by decide) (by decide) (by decide) hy hL
  have i5 := lx (y := y4) (j := (5 : Int32)) 5 (by decide) (by decide) (by decide) hy hL
  refine wq_in i1 ?_
  refine wq_eb (tl_house hN _ _ _ _ k0) (fun r1 e_r1 h_r1 => ?_)
  refine wq_v (fun v2 e_v2 => ?_)
  refine wq_in i1 ?_
  refine wq_eb (tt_fX12_house hN _ _ _ _ k1) (fun r3 e_r3 h_r3 => ?_)
  refine wq_v (fun v4 e_v4 => ?_)
  exact wq_s ⟨h_r1, h_r3.1, rq_house hN e_r1 e_r3 k0 k1 hr⟩
theorem tl_case2 {N L : Nat} (hN : 3000000000 ≤ N) (hL : L ≤ 3072) (xs : Nat → Int32) (I0 : Nat → Int32) (M0 : Nat → Nat → Int32) (I1 : Nat → Int32) (L1 : Int64) (M1 : Nat → Nat → Int32) (o2 : Nat → Int64) (y4 : Int32) (hy : 0 ≤ y4.toInt ∧ y4.toInt + 6 ≤ (L : Int)) (k0 : KX11 I0 M0) (k1 : KX12 I1 M1) (hr : RQ I0 M0 I1 M1) : wq (fL_case2 N L xs I0 M0 I1 L1 M1 o2 y4) (fun R => KX11 R.1 R.2.1 ∧ KX12 R.2.2.1 R.2.2.2.2.1 ∧ RQ R.1 R.2.1 R.2.2.1 R.2.2.2.2.1) := by
  unfold fL_case2
  have i1 := lx (y := y4) (j := (1 : Int32)) 1 (by decide) (by decide) (by decide) hy hL
  have i2 := lx (y := y4) (j := (2 : Int32)) 2 (by decide) (by decide) (by decide) hy hL
  have i3 := lx (y := y4) (j := (3 : Int32)) 3 (by decide) (by decide) (by decide) hy hL
  have i4 := lx (y := y4) (j := (4 : Int32)) 4 (by decide) (by decide) (by decide) hy hL
  have i5 := lx (y := y4) (j := (5 : Int32)) 5 (by decide) (by decide) (by decide) hy hL
  refine wq_in i1 ?_
  refine wq_in i2 ?_
  refine wq_in i3 ?_
  refine wq_eb (tl_wheel hN _ _ _ _ _ _ k0) (fun r1 e_r1 h_r1 => ?_)
  refine wq_v (fun v2 e_v2 => ?_)
  refine wq_in i1 ?_
  refine wq_in i2 ?_
  refine wq_in i3 ?_
  refine wq_eb (tt_fX12_wheel hN _ _ _ _ _ _ k1) (fun r3 e_r3 h_r3 => ?_)
  refine wq_v (fun v4 e_v4 => ?_)
  exact wq_s ⟨h_r1, h_r3.1, rq_wheel hN e_r1 e_r3 k0 k1 hr⟩
theorem tl_case3 {N L : Nat} (hN : 3000000000 ≤ N) (hL : L ≤ 3072) (xs : Nat → Int32) (I0 : Nat → Int32) (M0 : Nat → Nat → Int32) (I1 : Nat → Int32) (L1 : Int64) (M1 : Nat → Nat → Int32) (o2 : Nat → Int64) (y4 : Int32) (hy : 0 ≤ y4.toInt ∧ y4.toInt + 6 ≤ (L : Int)) (k0 : KX11 I0 M0) (k1 : KX12 I1 M1) (hr : RQ I0 M0 I1 M1) : wq (fL_case3 N L xs I0 M0 I1 L1 M1 o2 y4) (fun R => KX11 R.1 R.2.1 ∧ KX12 R.2.2.1 R.2.2.2.2.1 ∧ RQ R.1 R.2.1 R.2.2.1 R.2.2.2.2.1) := by
  unfold fL_case3
  have i1 := lx (y := y4) (j := (1 : Int32)) 1 (by decide) (by decide) (by decide) hy hL
  have i2 := lx (y := y4) (j := (2 : Int32)) 2 (by decide) (by decide) (by decide) hy hL
  have i3 := lx (y := y4) (j := (3 : Int32)) 3 (by decide) (by decide) (by decide) hy hL
  have i4 := lx (y := y4) (j := (4 : Int32)) 4 (by decide) (by decide) (by decide) hy hL
  have i5 := lx (y := y4) (j := (5 : Int32)) 5 (by decide) (by decide) (by decide) hy hL
  refine wq_eb (tt_fX11_fault hN _ _ k0) (fun r1 e_r1 h_r1 => ?_)
  refine wq_eb (tt_fX12_fault hN _ _ _ k1) (fun r2 e_r2 h_r2 => ?_)
  exact wq_s ⟨k0, h_r2.1, rq_fault hN e_r1 e_r2 k0 k1 hr⟩
theorem tl_case4 {N L : Nat} (hN : 3000000000 ≤ N) (hL : L ≤ 3072) (xs : Nat → Int32) (I0 : Nat → Int32) (M0 : Nat → Nat → Int32) (I1 : Nat → Int32) (L1 : Int64) (M1 : Nat → Nat → Int32) (o2 : Nat → Int64) (y4 : Int32) (hy : 0 ≤ y4.toInt ∧ y4.toInt + 6 ≤ (L : Int)) (k0 : KX11 I0 M0) (k1 : KX12 I1 M1) (hr : RQ I0 M0 I1 M1) : wq (fL_case4 N L xs I0 M0 I1 L1 M1 o2 y4) (fun R => KX11 R.1 R.2.1 ∧ KX12 R.2.2.1 R.2.2.2.2.1 ∧ RQ R.1 R.2.1 R.2.2.1 R.2.2.2.2.1) := by
  unfold fL_case4
  have i1 := lx (y := y4) (j := (1 : Int32)) 1 (by decide) (by decide) (by decide) hy hL
  have i2 := lx (y := y4) (j := (2 : Int32)) 2 (by decide) (by decide) (by decide) hy hL
  have i3 := lx (y := y4) (j := (3 : Int32)) 3 (by decide) (by decide) (by decide) hy hL
  have i4 := lx (y := y4) (j := (4 : Int32)) 4 (by decide) (by decide) (by decide) hy hL
  have i5 := lx (y := y4) (j := (5 : Int32)) 5 (by decide) (by decide) (by decide) hy hL
  refine wq_in i1 ?_
  refine wq_eb (tl_count hN _ _ _ _ k0) (fun r1 e_r1 h_r1 => ?_)
  refine wq_v (fun v2 e_v2 => ?_)
  refine wq_in i1 ?_
  refine wq_eb (tt_fX12_count hN _ _ _ _ k1) (fun r3 e_r3 h_r3 => ?_)
  refine wq_v (fun v4 e_v4 => ?_)
  exact wq_s ⟨h_r1, h_r3.1, rq_count hN e_r1 e_r3 k0 k1 hr⟩
theorem tl_case5 {N L : Nat} (hN : 3000000000 ≤ N) (hL : L ≤ 3072) (xs : Nat → Int32) (I0 : Nat → Int32) (M0 : Nat → Nat → Int32) (I1 : Nat → Int32) (L1 : Int64) (M1 : Nat → Nat → Int32) (o2 : Nat → Int64) (y4 : Int32) (hy : 0 ≤ y4.toInt ∧ y4.toInt + 6 ≤ (L : Int)) (k0 : KX11 I0 M0) (k1 : KX12 I1 M1) (hr : RQ I0 M0 I1 M1) : wq (fL_case5 N L xs I0 M0 I1 L1 M1 o2 y4) (fun R => KX11 R.1 R.2.1 ∧ KX12 R.2.2.1 R.2.2.2.2.1 ∧ RQ R.1 R.2.1 R.2.2.1 R.2.2.2.2.1) := by
  unfold fL_case5
  have i1 := lx (y := y4) (j := (1 : Int32)) 1 (by decide) (by decide) (by decide) hy hL
  have i2 := lx (y := y4) (j := (2 : Int32)) 2 (by decide) (by decide) (by decide) hy hL
  have i3 := lx (y := y4) (j := (3 : Int32)) 3 (by decide) (by decide) (by decide) hy hL
  have i4 := lx (y := y4) (j := (4 : Int32)) 4 (by decide) (by decide) (by decide) hy hL
  have i5 := lx (y := y4) (j := (5 : Int32)) 5 (by decide) (by decide) (by decide) hy hL
  refine wq_in i1 ?_
  refine wq_in i2 ?_
  refine wq_in i3 ?_
  refine wq_eb (tl_place hN _ _ _ _ _ _ k0) (fun r1 e_r1 h_r1 => ?_)
  refine wq_v (fun v2 e_v2 => ?_)
  refine wq_in i1 ?_
  refine wq_in i2 ?_
  refine wq_in i3 ?_
  refine wq_eb (tt_fX12_place hN _ _ _ _ _ _ k1) (fun r3 e_r3 h_r3 => ?_)
  refine wq_v (fun v4 e_v4 => ?_)
  exact wq_s ⟨h_r1, h_r3.1, rq_place hN e_r1 e_r3 k0 k1 hr⟩
theorem tl_case6 {N L : Nat} (hN : 3000000000 ≤ N) (hL : L ≤ 3072) (xs : Nat → Int32) (I0 : Nat → Int32) (M0 : Nat → Nat → Int32) (I1 : Nat → Int32) (L1 : Int64) (M1 : Nat → Nat → Int32) (o2 : Nat → Int64) (y4 : Int32) (hy : 0 ≤ y4.toInt ∧ y4.toInt + 6 ≤ (L : Int)) (k0 : KX11 I0 M0) (k1 : KX12 I1 M1) (hr : RQ I0 M0 I1 M1) : wq (fL_case6 N L xs I0 M0 I1 L1 M1 o2 y4) (fun R => KX11 R.1 R.2.1 ∧ KX12 R.2.2.1 R.2.2.2.2.1 ∧ RQ R.1 R.2.1 R.2.2.1 R.2.2.2.2.1) := by
  unfold fL_case6
  have i1 := lx (y := y4) (j := (1 : Int32)) 1 (by decide) (by decide) (by decide) hy hL
  have i2 := lx (y := y4) (j := (2 : Int32)) 2 (by decide) (by decide) (by decide) hy hL
  have i3 := lx (y := y4) (j := (3 : Int32)) 3 (by decide) (by decide) (by decide) hy hL
  have i4 := lx (y := y4) (j := (4 : Int32)) 4 (by decide) (by decide) (by decide) hy hL
  have i5 := lx (y := y4) (j := (5 : Int32)) 5 (by decide) (by decide) (by decide) hy hL
  refine wq_in i1 ?_
  refine wq_in i2 ?_
  refine wq_in i3 ?_
  refine wq_eb (tl_entry hN _ _ _ _ _ _ k0) (fun r1 e_r1 h_r1 => ?_)
  refine wq_v (fun v2 e_v2 => ?_)
  refine wq_in i1 ?_
  refine wq_in i2 ?_
  refine wq_in i3 ?_
  refine wq_eb (tt_fX12_entry hN _ _ _ _ _ _ k1) (fun r3 e_r3 h_r3 => ?_)
  refine wq_v (fun v4 e_v4 => ?_)
  exact wq_s ⟨h_r1, h_r3.2.1, rq_entry hN e_r1 e_r3 k0 k1 hr⟩
theorem tl_case7 {N L : Nat} (hN : 3000000000 ≤ N) (hL : L ≤ 3072) (xs : Nat → Int32) (I0 : Nat → Int32) (M0 : Nat → Nat → Int32) (I1 : Nat → Int32) (L1 : Int64) (M1 : Nat → Nat → Int32) (o2 : Nat → Int64) (y4 : Int32) (hy : 0 ≤ y4.toInt ∧ y4.toInt + 6 ≤ (L : Int)) (k0 : KX11 I0 M0) (k1 : KX12 I1 M1) (hr : RQ I0 M0 I1 M1) : wq (fL_case7 N L xs I0 M0 I1 L1 M1 o2 y4) (fun R => KX11 R.1 R.2.1 ∧ KX12 R.2.2.1 R.2.2.2.2.1 ∧ RQ R.1 R.2.1 R.2.2.1 R.2.2.2.2.1) := by
  unfold fL_case7
  have i1 := lx (y := y4) (j := (1 : Int32)) 1 (by decide) (by decide) (by decide) hy hL
  have i2 := lx (y := y4) (j := (2 : Int32)) 2 (by decide) (by decide) (by decide) hy hL
  have i3 := lx (y := y4) (j := (3 : Int32)) 3 (by decide) (by decide) (by decide) hy hL
  have i4 := lx (y := y4) (j := (4 : Int32)) 4 (by decide) (by decide) (by decide) hy hL
  have i5 := lx (y := y4) (j := (5 : Int32)) 5 (by decide) (by decide) (by decide) hy hL
  refine wq_in i1 ?_
  refine wq_in i2 ?_
  refine wq_in i3 ?_
  refine wq_in i4 ?_
  refine wq_eb (tl_cost hN _ _ _ _ _ _ _ k0) (fun r1 e_r1 h_r1 => ?_)
  refine wq_v (fun v2 e_v2 => ?_)
  refine wq_in i1 ?_
  refine wq_in i2 ?_
  refine wq_in i3 ?_
  refine wq_in i4 ?_
  refine wq_eb (tt_fX12_cost hN _ _ _ _ _ _ _ k1) (fun r3 e_r3 h_r3 => ?_)
  refine wq_v (fun v4 e_v4 => ?_)
  exact wq_s ⟨h_r1, h_r3.2.1, rq_cost hN e_r1 e_r3 k0 k1 hr⟩
theorem tl_case8 {N L : Nat} (hN : 3000000000 ≤ N) (hL : L ≤ 3072) (xs : Nat → Int32) (I0 : Nat → Int32) (M0 : Nat → Nat → Int32) (I1 : Nat → Int32) (L1 : Int64) (M1 : Nat → Nat → Int32) (o2 : Nat → Int64) (y4 : Int32) (hy : 0 ≤ y4.toInt ∧ y4.toInt + 6 ≤ (L : Int)) (k0 : KX11 I0 M0) (k1 : KX12 I1 M1) (hr : RQ I0 M0 I1 M1) : wq (fL_case8 N L xs I0 M0 I1 L1 M1 o2 y4) (fun R => KX11 R.1 R.2.1 ∧ KX12 R.2.2.1 R.2.2.2.2.1 ∧ RQ R.1 R.2.1 R.2.2.1 R.2.2.2.2.1) := by
  unfold fL_case8
  have i1 := lx (y := y4) (j := (1 : Int32)) 1 (by decide) (by decide) (by decide) hy hL
  have i2 := lx (y := y4) (j := (2 : Int32)) 2 (by decide) (by decide) (by decide) hy hL
  have i3 := lx (y := y4) (j := (3 : Int32)) 3 (by decide) (by decide) (by decide) hy hL
  have i4 := lx (y := y4) (j := (4 : Int32)) 4 (by decide) (by decide) (by decide) hy hL
  have i5 := lx (y := y4) (j := (5 : Int32)) 5 (by decide) (by decide) (by decide) hy hL
  refine wq_in i1 ?_
  refine wq_in i2 ?_
  refine wq_in i3 ?_
  refine wq_in i4 ?_
  refine wq_in i5 ?_
  refine wq_eb (tl_best hN _ _ _ _ _ _ _ _ k0) (fun r1 e_r1 h_r1 => ?_)
  refine wq_v (fun v2 e_v2 => ?_)
  refine wq_in i1 ?_
  refine wq_in i2 ?_
  refine wq_in i3 ?_
  refine wq_in i4 ?_
  refine wq_in i5 ?_
  refine wq_eb (tt_fX12_best hN _ _ _ _ _ _ _ _ k1) (fun r3 e_r3 h_r3 => ?_)
  refine wq_v (fun v4 e_v4 => ?_)
  exact wq_s ⟨h_r1, h_r3.2.1, rq_best hN e_r1 e_r3 k0 k1 hr⟩
theorem tl_case9 {N L : Nat} (hN : 3000000000 ≤ N) (hL : L ≤ 3072) (xs : Nat → Int32) (I0 : Nat → Int32) (M0 : Nat → Nat → Int32) (I1 : Nat → Int32) (L1 : Int64) (M1 : Nat → Nat → Int32) (o2 : Nat → Int64) (y4 : Int32) (hy : 0 ≤ y4.toInt ∧ y4.toInt + 6 ≤ (L : Int)) (k0 : KX11 I0 M0) (k1 : KX12 I1 M1) (hr : RQ I0 M0 I1 M1) : wq (fL_case9 N L xs I0 M0 I1 L1 M1 o2 y4) (fun R => KX11 R.1 R.2.1 ∧ KX12 R.2.2.1 R.2.2.2.2.1 ∧ RQ R.1 R.2.1 R.2.2.1 R.2.2.2.2.1) := by
  unfold fL_case9
  have i1 := lx (y := y4) (j := (1 : Int32)) 1 (by decide) (by decide) (by decide) hy hL
  have i2 := lx (y := y4) (j := (2 : Int32)) 2 (by decide) (by decide) (by decide) hy hL
  have i3 := lx (y := y4) (j := (3 : Int32)) 3 (by decide) (by decide) (by decide) hy hL
  have i4 := lx (y := y4) (j := (4 : Int32)) 4 (by decide) (by decide) (by decide) hy hL
  have i5 := lx (y := y4) (j := (5 : Int32)) 5 (by decide) (by decide) (by decide) hy hL
  refine wq_in i1 ?_
  refine wq_eb (tl_day hN _ _ _ _ k0) (fun r1 e_r1 h_r1 => ?_)
  refine wq_v (fun v2 e_v2 => ?_)
  refine wq_in i1 ?_
  refine wq_eb (tt_fX12_day hN _ _ _ _ k1) (fun r3 e_r3 h_r3 => ?_)
  refine wq_v (fun v4 e_v4 => ?_)
  exact wq_s ⟨h_r1, h_r3.1, rq_day hN e_r1 e_r3 k0 k1 hr⟩
theorem tl_case10 {N L : Nat} (hN : 3000000000 ≤ N) (hL : L ≤ 3072) (xs : Nat → Int32) (I0 : Nat → Int32) (M0 : Nat → Nat → Int32) (I1 : Nat → Int32) (L1 : Int64) (M1 : Nat → Nat → Int32) (o2 : Nat → Int64) (y4 : Int32) (hy : 0 ≤ y4.toInt ∧ y4.toInt + 6 ≤ (L : Int)) (k0 : KX11 I0 M0) (k1 : KX12 I1 M1) (hr : RQ I0 M0 I1 M1) : wq (fL_case10 N L xs I0 M0 I1 L1 M1 o2 y4) (fun R => KX11 R.1 R.2.1 ∧ KX12 R.2.2.1 R.2.2.2.2.1 ∧ RQ R.1 R.2.1 R.2.2.1 R.2.2.2.2.1) := by
  unfold fL_case10
  have i1 := lx (y := y4) (j := (1 : Int32)) 1 (by decide) (by decide) (by decide) hy hL
  have i2 := lx (y := y4) (j := (2 : Int32)) 2 (by decide) (by decide) (by decide) hy hL
  have i3 := lx (y := y4) (j := (3 : Int32)) 3 (by decide) (by decide) (by decide) hy hL
  have i4 := lx (y := y4) (j := (4 : Int32)) 4 (by decide) (by decide) (by decide) hy hL
  have i5 := lx (y := y4) (j := (5 : Int32)) 5 (by decide) (by decide) (by decide) hy hL
  refine wq_in i1 ?_
  refine wq_in i2 ?_
  refine wq_in i3 ?_
  refine wq_in i4 ?_
  refine wq_in i5 ?_
  refine wq_eb (tl_whose hN _ _ _ _ _ _ _ _ k0) (fun r1 e_r1 h_r1 => ?_)
  refine wq_v (fun v2 e_v2 => ?_)
  refine wq_in i1 ?_
  refine wq_in i2 ?_
  refine wq_in i3 ?_
  refine wq_in i4 ?_
  refine wq_in i5 ?_
  refine wq_eb (tt_fX12_whose hN _ _ _ _ _ _ _ _ k1) (fun r3 e_r3 h_r3 => ?_)
  refine wq_v (fun v4 e_v4 => ?_)
  exact wq_s ⟨h_r1, h_r3.1, rq_whose hN e_r1 e_r3 k0 k1 hr⟩
theorem tl_case11 {N L : Nat} (hN : 3000000000 ≤ N) (hL : L ≤ 3072) (xs : Nat → Int32) (I0 : Nat → Int32) (M0 : Nat → Nat → Int32) (I1 : Nat → Int32) (L1 : Int64) (M1 : Nat → Nat → Int32) (o2 : Nat → Int64) (y4 : Int32) (hy : 0 ≤ y4.toInt ∧ y4.toInt + 6 ≤ (L : Int)) (k0 : KX11 I0 M0) (k1 : KX12 I1 M1) (hr : RQ I0 M0 I1 M1) : wq (fL_case11 N L xs I0 M0 I1 L1 M1 o2 y4) (fun R => KX11 R.1 R.2.1 ∧ KX12 R.2.2.1 R.2.2.2.2.1 ∧ RQ R.1 R.2.1 R.2.2.1 R.2.2.2.2.1) := by
  unfold fL_case11
  have i1 := lx (y := y4) (j := (1 : Int32)) 1 (by decide) (by decide) (by decide) hy hL
  have i2 := lx (y := y4) (j := (2 : Int32)) 2 (by decide) (by decide) (by decide) hy hL
  have i3 := lx (y := y4) (j := (3 : Int32)) 3 (by decide) (by decide) (by decide) hy hL
  have i4 := lx (y := y4) (j := (4 : Int32)) 4 (by decide) (by decide) (by decide) hy hL
  have i5 := lx (y := y4) (j := (5 : Int32)) 5 (by decide) (by decide) (by decide) hy hL
  refine wq_in i1 ?_
  refine wq_in i2 ?_
  refine wq_in i3 ?_
  refine wq_in i4 ?_
  refine wq_eb (tl_mixed hN _ _ _ _ _ _ _ k0) (fun r1 e_r1 h_r1 => ?_)
  refine wq_v (fun v2 e_v2 => ?_)
  refine wq_in i1 ?_
  refine wq_in i2 ?_
  refine wq_in i3 ?_
  refine wq_in i4 ?_
  refine wq_eb (tt_fX12_mixed hN _ _ _ _ _ _ _ k1) (fun r3 e_r3 h_r3 => ?_)
  refine wq_v (fun v4 e_v4 => ?_)
  exact wq_s ⟨h_r1, h_r3.1, rq_mixed hN e_r1 e_r3 k0 k1 hr⟩
theorem tl_case12 {N L : Nat} (hN : 3000000000 ≤ N) (hL : L ≤ 3072) (xs : Nat → Int32) (I0 : Nat → Int32) (M0 : Nat → Nat → Int32) (I1 : Nat → Int32) (L1 : Int64) (M1 : Nat → Nat → Int32) (o2 : Nat → Int64) (y4 : Int32) (hy : 0 ≤ y4.toInt ∧ y4.toInt + 6 ≤ (L : Int)) (k0 : KX11 I0 M0) (k1 : KX12 I1 M1) (hr : RQ I0 M0 I1 M1) : wq (fL_case12 N L xs I0 M0 I1 L1 M1 o2 y4) (fun R => KX11 R.1 R.2.1 ∧ KX12 R.2.2.1 R.2.2.2.2.1 ∧ RQ R.1 R.2.1 R.2.2.1 R.2.2.2.2.1) := by
  unfold fL_case12
  have i1 := lx (y := y4) (j := (1 : Int32)) 1 (by decide) (by decide) (by decide) hy hL
  have i2 := lx (y := y4) (j := (2 : Int32)) 2 (by decide) (by decide) (by decide) hy hL
  have i3 := lx (y := y4) (j := (3 : Int32)) 3 (by decide) (by decide) (by decide) hy hL
  have i4 := lx (y := y4) (j := (4 : Int32)) 4 (by decide) (by decide) (by decide) hy hL
  have i5 := lx (y := y4) (j := (5 : Int32)) 5 (by decide) (by decide) (by decide) hy hL
  refine wq_in i1 ?_
  refine wq_in i2 ?_
  refine wq_eb (tl_climb hN _ _ _ _ _ k0) (fun r1 e_r1 h_r1 => ?_)
  refine wq_v (fun v2 e_v2 => ?_)
  refine wq_in i1 ?_
  refine wq_in i2 ?_
  refine wq_eb (tt_fX12_climb hN _ _ _ _ _ k1) (fun r3 e_r3 h_r3 => ?_)
  refine wq_v (fun v4 e_v4 => ?_)
  exact wq_s ⟨h_r1, h_r3.1, rq_climb hN e_r1 e_r3 k0 k1 hr⟩
theorem tl_case13 {N L : Nat} (hN : 3000000000 ≤ N) (hL : L ≤ 3072) (xs : Nat → Int32) (I0 : Nat → Int32) (M0 : Nat → Nat → Int32) (I1 : Nat → Int32) (L1 : Int64) (M1 : Nat → Nat → Int32) (o2 : Nat → Int64) (y4 : Int32) (hy : 0 ≤ y4.toInt ∧ y4.toInt + 6 ≤ (L : Int)) (k0 : KX11 I0 M0) (k1 : KX12 I1 M1) (hr : RQ I0 M0 I1 M1) : wq (fL_case13 N L xs I0 M0 I1 L1 M1 o2 y4) (fun R => KX11 R.1 R.2.1 ∧ KX12 R.2.2.1 R.2.2.2.2.1 ∧ RQ R.1 R.2.1 R.2.2.1 R.2.2.2.2.1) := by
  unfold fL_case13
  have i1 := lx (y := y4) (j := (1 : Int32)) 1 (by decide) (by decide) (by decide) hy hL
  have i2 := lx (y := y4) (j := (2 : Int32)) 2 (by decide) (by decide) (by decide) hy hL
  have i3 := lx (y := y4) (j := (3 : Int32)) 3 (by decide) (by decide) (by decide) hy hL
  have i4 := lx (y := y4) (j := (4 : Int32)) 4 (by decide) (by decide) (by decide) hy hL
  have i5 := lx (y := y4) (j := (5 : Int32)) 5 (by decide) (by decide) (by decide) hy hL
  refine wq_in i1 ?_
  refine wq_in i2 ?_
  refine wq_in i3 ?_
  refine wq_eb (tl_rise hN _ _ _ _ _ _ k0) (fun r1 e_r1 h_r1 => ?_)
  refine wq_v (fun v2 e_v2 => ?_)
  refine wq_in i1 ?_
  refine wq_in i2 ?_
  refine wq_in i3 ?_
  refine wq_eb (tt_fX12_rise hN _ _ _ _ _ _ k1) (fun r3 e_r3 h_r3 => ?_)
  refine wq_v (fun v4 e_v4 => ?_)
  exact wq_s ⟨h_r1, h_r3.1, rq_rise hN e_r1 e_r3 k0 k1 hr⟩
theorem tl_case14 {N L : Nat} (hN : 3000000000 ≤ N) (hL : L ≤ 3072) (xs : Nat → Int32) (I0 : Nat → Int32) (M0 : Nat → Nat → Int32) (I1 : Nat → Int32) (L1 : Int64) (M1 : Nat → Nat → Int32) (o2 : Nat → Int64) (y4 : Int32) (hy : 0 ≤ y4.toInt ∧ y4.toInt + 6 ≤ (L : Int)) (k0 : KX11 I0 M0) (k1 : KX12 I1 M1) (hr : RQ I0 M0 I1 M1) : wq (fL_case14 N L xs I0 M0 I1 L1 M1 o2 y4) (fun R => KX11 R.1 R.2.1 ∧ KX12 R.2.2.1 R.2.2.2.2.1 ∧ RQ R.1 R.2.1 R.2.2.1 R.2.2.2.2.1) := by
  unfold fL_case14
  have i1 := lx (y := y4) (j := (1 : Int32)) 1 (by decide) (by decide) (by decide) hy hL
  have i2 := lx (y := y4) (j := (2 : Int32)) 2 (by decide) (by decide) (by decide) hy hL
  have i3 := lx (y := y4) (j := (3 : Int32)) 3 (by decide) (by decide) (by decide) hy hL
  have i4 := lx (y := y4) (j := (4 : Int32)) 4 (by decide) (by decide) (by decide) hy hL
  have i5 := lx (y := y4) (j := (5 : Int32)) 5 (by decide) (by decide) (by decide) hy hL
  refine wq_in i1 ?_
  refine wq_in i2 ?_
  refine wq_eb (tl_middle hN _ _ _ _ _ k0) (fun r1 e_r1 h_r1 => ?_)
  refine wq_v (fun v2 e_v2 => ?_)
  refine wq_in i1 ?_
  refine wq_in i2 ?_
  refine wq_eb (tt_fX12_middle hN _ _ _ _ _ k1) (fun r3 e_r3 h_r3 => ?_)
  refine wq_v (fun v4 e_v4 => ?_)
  exact wq_s ⟨h_r1, h_r3.1, rq_middle hN e_r1 e_r3 k0 k1 hr⟩
theorem tl_case15 {N L : Nat} (hN : 3000000000 ≤ N) (hL : L ≤ 3072) (xs : Nat → Int32) (I0 : Nat → Int32) (M0 : Nat → Nat → Int32) (I1 : Nat → Int32) (L1 : Int64) (M1 : Nat → Nat → Int32) (o2 : Nat → Int64) (y4 : Int32) (hy : 0 ≤ y4.toInt ∧ y4.toInt + 6 ≤ (L : Int)) (k0 : KX11 I0 M0) (k1 : KX12 I1 M1) (hr : RQ I0 M0 I1 M1) : wq (fL_case15 N L xs I0 M0 I1 L1 M1 o2 y4) (fun R => KX11 R.1 R.2.1 ∧ KX12 R.2.2.1 R.2.2.2.2.1 ∧ RQ R.1 R.2.1 R.2.2.1 R.2.2.2.2.1) := by
  unfold fL_case15
  have i1 := lx (y := y4) (j := (1 : Int32)) 1 (by decide) (by decide) (by decide) hy hL
  have i2 := lx (y := y4) (j := (2 : Int32)) 2 (by decide) (by decide) (by decide) hy hL
  have i3 := lx (y := y4) (j := (3 : Int32)) 3 (by decide) (by decide) (by decide) hy hL
  have i4 := lx (y := y4) (j := (4 : Int32)) 4 (by decide) (by decide) (by decide) hy hL
  have i5 := lx (y := y4) (j := (5 : Int32)) 5 (by decide) (by decide) (by decide) hy hL
  refine wq_in i1 ?_
  refine wq_in i2 ?_
  refine wq_in i3 ?_
  refine wq_eb (tl_hour hN _ _ _ _ _ _ k0) (fun r1 e_r1 h_r1 => ?_)
  refine wq_v (fun v2 e_v2 => ?_)
  refine wq_in i1 ?_
  refine wq_in i2 ?_
  refine wq_in i3 ?_
  refine wq_eb (tt_fX12_hour hN _ _ _ _ _ _ k1) (fun r3 e_r3 h_r3 => ?_)
  refine wq_v (fun v4 e_v4 => ?_)
  exact wq_s ⟨h_r1, h_r3.1, rq_hour hN e_r1 e_r3 k0 k1 hr⟩
theorem tl_case16 {N L : Nat} (hN : 3000000000 ≤ N) (hL : L ≤ 3072) (xs : Nat → Int32) (I0 : Nat → Int32) (M0 : Nat → Nat → Int32) (I1 : Nat → Int32) (L1 : Int64) (M1 : Nat → Nat → Int32) (o2 : Nat → Int64) (y4 : Int32) (hy : 0 ≤ y4.toInt ∧ y4.toInt + 6 ≤ (L : Int)) (k0 : KX11 I0 M0) (k1 : KX12 I1 M1) (hr : RQ I0 M0 I1 M1) : wq (fL_case16 N L xs I0 M0 I1 L1 M1 o2 y4) (fun R => KX11 R.1 R.2.1 ∧ KX12 R.2.2.1 R.2.2.2.2.1 ∧ RQ R.1 R.2.1 R.2.2.1 R.2.2.2.2.1) := by
  unfold fL_case16
  have i1 := lx (y := y4) (j := (1 : Int32)) 1 (by decide) (by decide) (by decide) hy hL
  have i2 := lx (y := y4) (j := (2 : Int32)) 2 (by decide) (by decide) (by decide) hy hL
  have i3 := lx (y := y4) (j := (3 : Int32)) 3 (by decide) (by decide) (by decide) hy hL
  have i4 := lx (y := y4) (j := (4 : Int32)) 4 (by decide) (by decide) (by decide) hy hL
  have i5 := lx (y := y4) (j := (5 : Int32)) 5 (by decide) (by decide) (by decide) hy hL
  refine wq_in i1 ?_
  refine wq_in i2 ?_
  refine wq_in i3 ?_
  refine wq_in i4 ?_
  refine wq_eb (tl_houseOf hN _ _ _ _ _ _ _ k0) (fun r1 e_r1 h_r1 => ?_)
  refine wq_v (fun v2 e_v2 => ?_)
  refine wq_in i1 ?_
  refine wq_in i2 ?_
  refine wq_in i3 ?_
  refine wq_in i4 ?_
  refine wq_eb (tt_fX12_houseOf hN _ _ _ _ _ _ _ k1) (fun r3 e_r3 h_r3 => ?_)
  refine wq_v (fun v4 e_v4 => ?_)
  exact wq_s ⟨h_r1, h_r3.2.1, rq_houseOf hN e_r1 e_r3 k0 k1 hr⟩
theorem tl_case17 {N L : Nat} (hN : 3000000000 ≤ N) (hL : L ≤ 3072) (xs : Nat → Int32) (I0 : Nat → Int32) (M0 : Nat → Nat → Int32) (I1 : Nat → Int32) (L1 : Int64) (M1 : Nat → Nat → Int32) (o2 : Nat → Int64) (y4 : Int32) (hy : 0 ≤ y4.toInt ∧ y4.toInt + 6 ≤ (L : Int)) (k0 : KX11 I0 M0) (k1 : KX12 I1 M1) (hr : RQ I0 M0 I1 M1) : wq (fL_case17 N L xs I0 M0 I1 L1 M1 o2 y4) (fun R => KX11 R.1 R.2.1 ∧ KX12 R.2.2.1 R.2.2.2.2.1 ∧ RQ R.1 R.2.1 R.2.2.1 R.2.2.2.2.1) := by
  unfold fL_case17
  have i1 := lx (y := y4) (j := (1 : Int32)) 1 (by decide) (by decide) (by decide) hy hL
  have i2 := lx (y := y4) (j := (2 : Int32)) 2 (by decide) (by decide) (by decide) hy hL
  have i3 := lx (y := y4) (j := (3 : Int32)) 3 (by decide) (by decide) (by decide) hy hL
  have i4 := lx (y := y4) (j := (4 : Int32)) 4 (by decide) (by decide) (by decide) hy hL
  have i5 := lx (y := y4) (j := (5 : Int32)) 5 (by decide) (by decide) (by decide) hy hL
  refine wq_in i1 ?_
  refine wq_in i2 ?_
  refine wq_in i3 ?_
  refine wq_in i4 ?_
  refine wq_eb (tl_agree hN _ _ _ _ _ _ _ k0) (fun r1 e_r1 h_r1 => ?_)
  refine wq_v (fun v2 e_v2 => ?_)
  refine wq_in i1 ?_
  refine wq_in i2 ?_
  refine wq_in i3 ?_
  refine wq_in i4 ?_
  refine wq_eb (tt_fX12_agree hN _ _ _ _ _ _ _ k1) (fun r3 e_r3 h_r3 => ?_)
  refine wq_v (fun v4 e_v4 => ?_)
  exact wq_s ⟨h_r1, h_r3.1, rq_agree hN e_r1 e_r3 k0 k1 hr⟩
theorem tl_case18 {N L : Nat} (hN : 3000000000 ≤ N) (hL : L ≤ 3072) (xs : Nat → Int32) (I0 : Nat → Int32) (M0 : Nat → Nat → Int32) (I1 : Nat → Int32) (L1 : Int64) (M1 : Nat → Nat → Int32) (o2 : Nat → Int64) (y4 : Int32) (hy : 0 ≤ y4.toInt ∧ y4.toInt + 6 ≤ (L : Int)) (k0 : KX11 I0 M0) (k1 : KX12 I1 M1) (hr : RQ I0 M0 I1 M1) : wq (fL_case18 N L xs I0 M0 I1 L1 M1 o2 y4) (fun R => KX11 R.1 R.2.1 ∧ KX12 R.2.2.1 R.2.2.2.2.1 ∧ RQ R.1 R.2.1 R.2.2.1 R.2.2.2.2.1) := by
  unfold fL_case18
  have i1 := lx (y := y4) (j := (1 : Int32)) 1 (by decide) (by decide) (by decide) hy hL
  have i2 := lx (y := y4) (j := (2 : Int32)) 2 (by decide) (by decide) (by decide) hy hL
  have i3 := lx (y := y4) (j := (3 : Int32)) 3 (by decide) (by decide) (by decide) hy hL
  have i4 := lx (y := y4) (j := (4 : Int32)) 4 (by decide) (by decide) (by decide) hy hL
  have i5 := lx (y := y4) (j := (5 : Int32)) 5 (by decide) (by decide) (by decide) hy hL
  refine wq_in i1 ?_
  refine wq_in i2 ?_
  refine wq_in i3 ?_
  refine wq_eb (tl_lot hN _ _ _ _ _ _ k0) (fun r1 e_r1 h_r1 => ?_)
  refine wq_v (fun v2 e_v2 => ?_)
  refine wq_in i1 ?_
  refine wq_in i2 ?_
  refine wq_in i3 ?_
  refine wq_eb (tt_fX12_lot hN _ _ _ _ _ _ k1) (fun r3 e_r3 h_r3 => ?_)
  refine wq_v (fun v4 e_v4 => ?_)
  exact wq_s ⟨h_r1, h_r3.2.1, rq_lot hN e_r1 e_r3 k0 k1 hr⟩
theorem tl_case19 {N L : Nat} (hN : 3000000000 ≤ N) (hL : L ≤ 3072) (xs : Nat → Int32) (I0 : Nat → Int32) (M0 : Nat → Nat → Int32) (I1 : Nat → Int32) (L1 : Int64) (M1 : Nat → Nat → Int32) (o2 : Nat → Int64) (y4 : Int32) (hy : 0 ≤ y4.toInt ∧ y4.toInt + 6 ≤ (L : Int)) (k0 : KX11 I0 M0) (k1 : KX12 I1 M1) (hr : RQ I0 M0 I1 M1) : wq (fL_case19 N L xs I0 M0 I1 L1 M1 o2 y4) (fun R => KX11 R.1 R.2.1 ∧ KX12 R.2.2.1 R.2.2.2.2.1 ∧ RQ R.1 R.2.1 R.2.2.1 R.2.2.2.2.1) := by
  unfold fL_case19
  have i1 := lx (y := y4) (j := (1 : Int32)) 1 (by decide) (by decide) (by decide) hy hL
  have i2 := lx (y := y4) (j := (2 : Int32)) 2 (by decide) (by decide) (by decide) hy hL
  have i3 := lx (y := y4) (j := (3 : Int32)) 3 (by decide) (by decide) (by decide) hy hL
  have i4 := lx (y := y4) (j := (4 : Int32)) 4 (by decide) (by decide) (by decide) hy hL
  have i5 := lx (y := y4) (j := (5 : Int32)) 5 (by decide) (by decide) (by decide) hy hL
  refine wq_in i1 ?_
  refine wq_in i2 ?_
  refine wq_eb (tl_price hN _ _ _ _ _ k0) (fun r1 e_r1 h_r1 => ?_)
  refine wq_v (fun v2 e_v2 => ?_)
  refine wq_in i1 ?_
  refine wq_in i2 ?_
  refine wq_eb (tt_fX12_price hN _ _ _ _ _ k1) (fun r3 e_r3 h_r3 => ?_)
  refine wq_v (fun v4 e_v4 => ?_)
  exact wq_s ⟨h_r1, h_r3.1, rq_price hN e_r1 e_r3 k0 k1 hr⟩
theorem tl_case20 {N L : Nat} (hN : 3000000000 ≤ N) (hL : L ≤ 3072) (xs : Nat → Int32) (I0 : Nat → Int32) (M0 : Nat → Nat → Int32) (I1 : Nat → Int32) (L1 : Int64) (M1 : Nat → Nat → Int32) (o2 : Nat → Int64) (y4 : Int32) (hy : 0 ≤ y4.toInt ∧ y4.toInt + 6 ≤ (L : Int)) (k0 : KX11 I0 M0) (k1 : KX12 I1 M1) (hr : RQ I0 M0 I1 M1) : wq (fL_case20 N L xs I0 M0 I1 L1 M1 o2 y4) (fun R => KX11 R.1 R.2.1 ∧ KX12 R.2.2.1 R.2.2.2.2.1 ∧ RQ R.1 R.2.1 R.2.2.1 R.2.2.2.2.1) := by
  unfold fL_case20
  have i1 := lx (y := y4) (j := (1 : Int32)) 1 (by decide) (by decide) (by decide) hy hL
  have i2 := lx (y := y4) (j := (2 : Int32)) 2 (by decide) (by decide) (by decide) hy hL
  have i3 := lx (y := y4) (j := (3 : Int32)) 3 (by decide) (by decide) (by decide) hy hL
  have i4 := lx (y := y4) (j := (4 : Int32)) 4 (by decide) (by decide) (by decide) hy hL
  have i5 := lx (y := y4) (j := (5 : Int32)) 5 (by decide) (by decide) (by decide) hy hL
  refine wq_in i1 ?_
  refine wq_in i2 ?_
  refine wq_in i3 ?_
  refine wq_in i4 ?_
  refine wq_eb (tl_seek hN _ _ _ _ _ _ k0) (fun r1 e_r1 h_r1 => ?_)
  refine wq_v (fun v2 e_v2 => ?_)
  refine wq_in i1 ?_
  refine wq_in i2 ?_
  refine wq_in i3 ?_
  refine wq_in i4 ?_
  refine wq_eb (tt_fX12_seek hN _ _ _ _ _ _ _ k1) (fun r3 e_r3 h_r3 => ?_)
  exact wq_s ⟨h_r1, h_r3.1, rq_seek hN e_r1 e_r3 k0 k1 hr⟩
theorem tl_case21 {N L : Nat} (hN : 3000000000 ≤ N) (hL : L ≤ 3072) (xs : Nat → Int32) (I0 : Nat → Int32) (M0 : Nat → Nat → Int32) (I1 : Nat → Int32) (L1 : Int64) (M1 : Nat → Nat → Int32) (o2 : Nat → Int64) (y4 : Int32) (hy : 0 ≤ y4.toInt ∧ y4.toInt + 6 ≤ (L : Int)) (k0 : KX11 I0 M0) (k1 : KX12 I1 M1) (hr : RQ I0 M0 I1 M1) : wq (fL_case21 N L xs I0 M0 I1 L1 M1 o2 y4) (fun R => KX11 R.1 R.2.1 ∧ KX12 R.2.2.1 R.2.2.2.2.1 ∧ RQ R.1 R.2.1 R.2.2.1 R.2.2.2.2.1) := by
  unfold fL_case21
  have i1 := lx (y := y4) (j := (1 : Int32)) 1 (by decide) (by decide) (by decide) hy hL
  have i2 := lx (y := y4) (j := (2 : Int32)) 2 (by decide) (by decide) (by decide) hy hL
  have i3 := lx (y := y4) (j := (3 : Int32)) 3 (by decide) (by decide) (by decide) hy hL
  have i4 := lx (y := y4) (j := (4 : Int32)) 4 (by decide) (by decide) (by decide) hy hL
  have i5 := lx (y := y4) (j := (5 : Int32)) 5 (by decide) (by decide) (by decide) hy hL
  refine wq_in i1 ?_
  refine wq_eb (tl_on hN _ _ _ _ k0) (fun r1 e_r1 h_r1 => ?_)
  refine wq_v (fun v2 e_v2 => ?_)
  refine wq_in i1 ?_
  refine wq_eb (tt_fX12_on hN _ _ _ _ k1) (fun r3 e_r3 h_r3 => ?_)
  refine wq_v (fun v4 e_v4 => ?_)
  exact wq_s ⟨h_r1, h_r3.2.1, rq_on hN e_r1 e_r3 k0 k1 hr⟩
theorem tl_case22 {N L : Nat} (hN : 3000000000 ≤ N) (hL : L ≤ 3072) (xs : Nat → Int32) (I0 : Nat → Int32) (M0 : Nat → Nat → Int32) (I1 : Nat → Int32) (L1 : Int64) (M1 : Nat → Nat → Int32) (o2 : Nat → Int64) (y4 : Int32) (hy : 0 ≤ y4.toInt ∧ y4.toInt + 6 ≤ (L : Int)) (k0 : KX11 I0 M0) (k1 : KX12 I1 M1) (hr : RQ I0 M0 I1 M1) : wq (fL_case22 N L xs I0 M0 I1 L1 M1 o2 y4) (fun R => KX11 R.1 R.2.1 ∧ KX12 R.2.2.1 R.2.2.2.2.1 ∧ RQ R.1 R.2.1 R.2.2.1 R.2.2.2.2.1) := by
  unfold fL_case22
  have i1 := lx (y := y4) (j := (1 : Int32)) 1 (by decide) (by decide) (by decide) hy hL
  have i2 := lx (y := y4) (j := (2 : Int32)) 2 (by decide) (by decide) (by decide) hy hL
  have i3 := lx (y := y4) (j := (3 : Int32)) 3 (by decide) (by decide) (by decide) hy hL
  have i4 := lx (y := y4) (j := (4 : Int32)) 4 (by decide) (by decide) (by decide) hy hL
  have i5 := lx (y := y4) (j := (5 : Int32)) 5 (by decide) (by decide) (by decide) hy hL
  refine wq_in i1 ?_
  refine wq_eb (tl_held hN _ _ _ _ k0) (fun r1 e_r1 h_r1 => ?_)
  refine wq_v (fun v2 e_v2 => ?_)
  refine wq_in i1 ?_
  refine wq_eb (tt_fX12_held hN _ _ _ _ k1) (fun r3 e_r3 h_r3 => ?_)
  refine wq_v (fun v4 e_v4 => ?_)
  exact wq_s ⟨h_r1, h_r3.1, rq_held hN e_r1 e_r3 k0 k1 hr⟩
theorem tl_case23 {N L : Nat} (hN : 3000000000 ≤ N) (hL : L ≤ 3072) (xs : Nat → Int32) (I0 : Nat → Int32) (M0 : Nat → Nat → Int32) (I1 : Nat → Int32) (L1 : Int64) (M1 : Nat → Nat → Int32) (o2 : Nat → Int64) (y4 : Int32) (hy : 0 ≤ y4.toInt ∧ y4.toInt + 6 ≤ (L : Int)) (k0 : KX11 I0 M0) (k1 : KX12 I1 M1) (hr : RQ I0 M0 I1 M1) : wq (fL_case23 N L xs I0 M0 I1 L1 M1 o2 y4) (fun R => KX11 R.1 R.2.1 ∧ KX12 R.2.2.1 R.2.2.2.2.1 ∧ RQ R.1 R.2.1 R.2.2.1 R.2.2.2.2.1) := by
  unfold fL_case23
  have i1 := lx (y := y4) (j := (1 : Int32)) 1 (by decide) (by decide) (by decide) hy hL
  have i2 := lx (y := y4) (j := (2 : Int32)) 2 (by decide) (by decide) (by decide) hy hL
  have i3 := lx (y := y4) (j := (3 : Int32)) 3 (by decide) (by decide) (by decide) hy hL
  have i4 := lx (y := y4) (j := (4 : Int32)) 4 (by decide) (by decide) (by decide) hy hL
  have i5 := lx (y := y4) (j := (5 : Int32)) 5 (by decide) (by decide) (by decide) hy hL
  refine wq_eb (tt_fX11_image hN _ _ k0) (fun r1 e_r1 h_r1 => ?_)
  refine wq_eb (tt_fX12_image hN _ _ _ k1) (fun r2 e_r2 h_r2 => ?_)
  exact wq_s ⟨h_r1.2.1, h_r2.1, rq_image hN e_r1 e_r2 k0 k1 hr⟩
theorem tl_case24 {N L : Nat} (hN : 3000000000 ≤ N) (hL : L ≤ 3072) (xs : Nat → Int32) (I0 : Nat → Int32) (M0 : Nat → Nat → Int32) (I1 : Nat → Int32) (L1 : Int64) (M1 : Nat → Nat → Int32) (o2 : Nat → Int64) (y4 : Int32) (hy : 0 ≤ y4.toInt ∧ y4.toInt + 6 ≤ (L : Int)) (k0 : KX11 I0 M0) (k1 : KX12 I1 M1) (hr : RQ I0 M0 I1 M1) : wq (fL_case24 N L xs I0 M0 I1 L1 M1 o2 y4) (fun R => KX11 R.1 R.2.1 ∧ KX12 R.2.2.1 R.2.2.2.2.1 ∧ RQ R.1 R.2.1 R.2.2.1 R.2.2.2.2.1) := by
  unfold fL_case24
  have i1 := lx (y := y4) (j := (1 : Int32)) 1 (by decide) (by decide) (by decide) hy hL
  have i2 := lx (y := y4) (j := (2 : Int32)) 2 (by decide) (by decide) (by decide) hy hL
  have i3 := lx (y := y4) (j := (3 : Int32)) 3 (by decide) (by decide) (by decide) hy hL
  have i4 := lx (y := y4) (j := (4 : Int32)) 4 (by decide) (by decide) (by decide) hy hL
  have i5 := lx (y := y4) (j := (5 : Int32)) 5 (by decide) (by decide) (by decide) hy hL
  refine wq_eb (tt_fX11_restore hN _ _ k0) (fun r1 e_r1 h_r1 => ?_)
  refine wq_eb (tt_fX12_restore hN _ _ _ k1) (fun r2 e_r2 h_r2 => ?_)
  exact wq_s ⟨h_r1.2.1, h_r2.1, rq_restore hN e_r1 e_r2 k0 k1 hr⟩
theorem tl_case25 {N L : Nat} (hN : 3000000000 ≤ N) (hL : L ≤ 3072) (xs : Nat → Int32) (I0 : Nat → Int32) (M0 : Nat → Nat → Int32) (I1 : Nat → Int32) (L1 : Int64) (M1 : Nat → Nat → Int32) (o2 : Nat → Int64) (y4 : Int32) (hy : 0 ≤ y4.toInt ∧ y4.toInt + 6 ≤ (L : Int)) (k0 : KX11 I0 M0) (k1 : KX12 I1 M1) (hr : RQ I0 M0 I1 M1) : wq (fL_case25 N L xs I0 M0 I1 L1 M1 o2 y4) (fun R => KX11 R.1 R.2.1 ∧ KX12 R.2.2.1 R.2.2.2.2.1 ∧ RQ R.1 R.2.1 R.2.2.1 R.2.2.2.2.1) := by
  unfold fL_case25
  have i1 := lx (y := y4) (j := (1 : Int32)) 1 (by decide) (by decide) (by decide) hy hL
  have i2 := lx (y := y4) (j := (2 : Int32)) 2 (by decide) (by decide) (by decide) hy hL
  have i3 := lx (y := y4) (j := (3 : Int32)) 3 (by decide) (by decide) (by decide) hy hL
  have i4 := lx (y := y4) (j := (4 : Int32)) 4 (by decide) (by decide) (by decide) hy hL
  have i5 := lx (y := y4) (j := (5 : Int32)) 5 (by decide) (by decide) (by decide) hy hL
  refine wq_in i1 ?_
  refine wq_in i2 ?_
  refine wq_in i3 ?_
  refine wq_in i4 ?_
  refine wq_in i5 ?_
  refine wq_eb (tl_misread hN _ _ _ _ _ _ _ _ k0) (fun r1 e_r1 h_r1 => ?_)
  refine wq_v (fun v2 e_v2 => ?_)
  refine wq_in i1 ?_
  refine wq_in i2 ?_
  refine wq_in i3 ?_
  refine wq_in i4 ?_
  refine wq_in i5 ?_
  refine wq_eb (tt_fX12_misread hN _ _ _ _ _ _ _ _ k1) (fun r3 e_r3 h_r3 => ?_)
  refine wq_v (fun v4 e_v4 => ?_)
  exact wq_s ⟨h_r1, h_r3.2.1, rq_misread hN e_r1 e_r3 k0 k1 hr⟩
theorem tl_case26 {N L : Nat} (hN : 3000000000 ≤ N) (hL : L ≤ 3072) (xs : Nat → Int32) (I0 : Nat → Int32) (M0 : Nat → Nat → Int32) (I1 : Nat → Int32) (L1 : Int64) (M1 : Nat → Nat → Int32) (o2 : Nat → Int64) (y4 : Int32) (hy : 0 ≤ y4.toInt ∧ y4.toInt + 6 ≤ (L : Int)) (k0 : KX11 I0 M0) (k1 : KX12 I1 M1) (hr : RQ I0 M0 I1 M1) : wq (fL_case26 N L xs I0 M0 I1 L1 M1 o2 y4) (fun R => KX11 R.1 R.2.1 ∧ KX12 R.2.2.1 R.2.2.2.2.1 ∧ RQ R.1 R.2.1 R.2.2.1 R.2.2.2.2.1) := by
  unfold fL_case26
  have i1 := lx (y := y4) (j := (1 : Int32)) 1 (by decide) (by decide) (by decide) hy hL
  have i2 := lx (y := y4) (j := (2 : Int32)) 2 (by decide) (by decide) (by decide) hy hL
  have i3 := lx (y := y4) (j := (3 : Int32)) 3 (by decide) (by decide) (by decide) hy hL
  have i4 := lx (y := y4) (j := (4 : Int32)) 4 (by decide) (by decide) (by decide) hy hL
  have i5 := lx (y := y4) (j := (5 : Int32)) 5 (by decide) (by decide) (by decide) hy hL
  refine wq_in i1 ?_
  refine wq_in i2 ?_
  refine wq_in i3 ?_
  refine wq_in i4 ?_
  refine wq_eb (tl_errors hN _ _ _ _ _ _ _ k0) (fun r1 e_r1 h_r1 => ?_)
  refine wq_v (fun v2 e_v2 => ?_)
  refine wq_in i1 ?_
  refine wq_in i2 ?_
  refine wq_in i3 ?_
  refine wq_in i4 ?_
  refine wq_eb (tt_fX12_errors hN _ _ _ _ _ _ _ k1) (fun r3 e_r3 h_r3 => ?_)
  refine wq_v (fun v4 e_v4 => ?_)
  exact wq_s ⟨h_r1, h_r3.1, rq_errors hN e_r1 e_r3 k0 k1 hr⟩
theorem tl_case27 {N L : Nat} (hN : 3000000000 ≤ N) (hL : L ≤ 3072) (xs : Nat → Int32) (I0 : Nat → Int32) (M0 : Nat → Nat → Int32) (I1 : Nat → Int32) (L1 : Int64) (M1 : Nat → Nat → Int32) (o2 : Nat → Int64) (y4 : Int32) (hy : 0 ≤ y4.toInt ∧ y4.toInt + 6 ≤ (L : Int)) (k0 : KX11 I0 M0) (k1 : KX12 I1 M1) (hr : RQ I0 M0 I1 M1) : wq (fL_case27 N L xs I0 M0 I1 L1 M1 o2 y4) (fun R => KX11 R.1 R.2.1 ∧ KX12 R.2.2.1 R.2.2.2.2.1 ∧ RQ R.1 R.2.1 R.2.2.1 R.2.2.2.2.1) := by
  unfold fL_case27
  have i1 := lx (y := y4) (j := (1 : Int32)) 1 (by decide) (by decide) (by decide) hy hL
  have i2 := lx (y := y4) (j := (2 : Int32)) 2 (by decide) (by decide) (by decide) hy hL
  have i3 := lx (y := y4) (j := (3 : Int32)) 3 (by decide) (by decide) (by decide) hy hL
  have i4 := lx (y := y4) (j := (4 : Int32)) 4 (by decide) (by decide) (by decide) hy hL
  have i5 := lx (y := y4) (j := (5 : Int32)) 5 (by decide) (by decide) (by decide) hy hL
  refine wq_in i1 ?_
  refine wq_in i2 ?_
  refine wq_in i3 ?_
  refine wq_eb (tl_possible hN _ _ _ _ _ _ k0) (fun r1 e_r1 h_r1 => ?_)
  refine wq_v (fun v2 e_v2 => ?_)
  refine wq_in i1 ?_
  refine wq_in i2 ?_
  refine wq_in i3 ?_
  refine wq_eb (tt_fX12_possible hN _ _ _ _ _ _ k1) (fun r3 e_r3 h_r3 => ?_)
  refine wq_v (fun v4 e_v4 => ?_)
  exact wq_s ⟨h_r1, h_r3.1, rq_possible hN e_r1 e_r3 k0 k1 hr⟩
theorem tl_case28 {N L : Nat} (hN : 3000000000 ≤ N) (hL : L ≤ 3072) (xs : Nat → Int32) (I0 : Nat → Int32) (M0 : Nat → Nat → Int32) (I1 : Nat → Int32) (L1 : Int64) (M1 : Nat → Nat → Int32) (o2 : Nat → Int64) (y4 : Int32) (hy : 0 ≤ y4.toInt ∧ y4.toInt + 6 ≤ (L : Int)) (k0 : KX11 I0 M0) (k1 : KX12 I1 M1) (hr : RQ I0 M0 I1 M1) : wq (fL_case28 N L xs I0 M0 I1 L1 M1 o2 y4) (fun R => KX11 R.1 R.2.1 ∧ KX12 R.2.2.1 R.2.2.2.2.1 ∧ RQ R.1 R.2.1 R.2.2.1 R.2.2.2.2.1) := by
  unfold fL_case28
  have i1 := lx (y := y4) (j := (1 : Int32)) 1 (by decide) (by decide) (by decide) hy hL
  have i2 := lx (y := y4) (j := (2 : Int32)) 2 (by decide) (by decide) (by decide) hy hL
  have i3 := lx (y := y4) (j := (3 : Int32)) 3 (by decide) (by decide) (by decide) hy hL
  have i4 := lx (y := y4) (j := (4 : Int32)) 4 (by decide) (by decide) (by decide) hy hL
  have i5 := lx (y := y4) (j := (5 : Int32)) 5 (by decide) (by decide) (by decide) hy hL
  refine wq_in i1 ?_
  refine wq_in i2 ?_
  refine wq_eb (tl_slips hN _ _ _ _ _ k0) (fun r1 e_r1 h_r1 => ?_)
  refine wq_v (fun v2 e_v2 => ?_)
  refine wq_in i1 ?_
  refine wq_in i2 ?_
  refine wq_eb (tt_fX12_slips hN _ _ _ _ _ k1) (fun r3 e_r3 h_r3 => ?_)
  refine wq_v (fun v4 e_v4 => ?_)
  exact wq_s ⟨h_r1, h_r3.1, rq_slips hN e_r1 e_r3 k0 k1 hr⟩
theorem tl_case29 {N L : Nat} (hN : 3000000000 ≤ N) (hL : L ≤ 3072) (xs : Nat → Int32) (I0 : Nat → Int32) (M0 : Nat → Nat → Int32) (I1 : Nat → Int32) (L1 : Int64) (M1 : Nat → Nat → Int32) (o2 : Nat → Int64) (y4 : Int32) (hy : 0 ≤ y4.toInt ∧ y4.toInt + 6 ≤ (L : Int)) (k0 : KX11 I0 M0) (k1 : KX12 I1 M1) (hr : RQ I0 M0 I1 M1) : wq (fL_case29 N L xs I0 M0 I1 L1 M1 o2 y4) (fun R => KX11 R.1 R.2.1 ∧ KX12 R.2.2.1 R.2.2.2.2.1 ∧ RQ R.1 R.2.1 R.2.2.1 R.2.2.2.2.1) := by
  unfold fL_case29
  have i1 := lx (y := y4) (j := (1 : Int32)) 1 (by decide) (by decide) (by decide) hy hL
  have i2 := lx (y := y4) (j := (2 : Int32)) 2 (by decide) (by decide) (by decide) hy hL
  have i3 := lx (y := y4) (j := (3 : Int32)) 3 (by decide) (by decide) (by decide) hy hL
  have i4 := lx (y := y4) (j := (4 : Int32)) 4 (by decide) (by decide) (by decide) hy hL
  have i5 := lx (y := y4) (j := (5 : Int32)) 5 (by decide) (by decide) (by decide) hy hL
  refine wq_in i1 ?_
  refine wq_in i2 ?_
  refine wq_in i3 ?_
  refine wq_eb (tl_handed hN _ _ _ _ _ _ k0) (fun r1 e_r1 h_r1 => ?_)
  refine wq_v (fun v2 e_v2 => ?_)
  refine wq_in i1 ?_
  refine wq_in i2 ?_
  refine wq_in i3 ?_
  refine wq_eb (tt_fX12_handed hN _ _ _ _ _ _ k1) (fun r3 e_r3 h_r3 => ?_)
  refine wq_v (fun v4 e_v4 => ?_)
  exact wq_s ⟨h_r1, h_r3.1, rq_handed hN e_r1 e_r3 k0 k1 hr⟩
theorem tl_case30 {N L : Nat} (hN : 3000000000 ≤ N) (hL : L ≤ 3072) (xs : Nat → Int32) (I0 : Nat → Int32) (M0 : Nat → Nat → Int32) (I1 : Nat → Int32) (L1 : Int64) (M1 : Nat → Nat → Int32) (o2 : Nat → Int64) (y4 : Int32) (hy : 0 ≤ y4.toInt ∧ y4.toInt + 6 ≤ (L : Int)) (k0 : KX11 I0 M0) (k1 : KX12 I1 M1) (hr : RQ I0 M0 I1 M1) : wq (fL_case30 N L xs I0 M0 I1 L1 M1 o2 y4) (fun R => KX11 R.1 R.2.1 ∧ KX12 R.2.2.1 R.2.2.2.2.1 ∧ RQ R.1 R.2.1 R.2.2.1 R.2.2.2.2.1) := by
  unfold fL_case30
  have i1 := lx (y := y4) (j := (1 : Int32)) 1 (by decide) (by decide) (by decide) hy hL
  have i2 := lx (y := y4) (j := (2 : Int32)) 2 (by decide) (by decide) (by decide) hy hL
  have i3 := lx (y := y4) (j := (3 : Int32)) 3 (by decide) (by decide) (by decide) hy hL
  have i4 := lx (y := y4) (j := (4 : Int32)) 4 (by decide) (by decide) (by decide) hy hL
  have i5 := lx (y := y4) (j := (5 : Int32)) 5 (by decide) (by decide) (by decide) hy hL
  refine wq_in i1 ?_
  refine wq_in i2 ?_
  refine wq_eb (tl_leaf hN _ _ _ _ _ k0) (fun r1 e_r1 h_r1 => ?_)
  refine wq_v (fun v2 e_v2 => ?_)
  refine wq_in i1 ?_
  refine wq_in i2 ?_
  refine wq_eb (tt_fX12_leaf hN _ _ _ _ _ k1) (fun r3 e_r3 h_r3 => ?_)
  refine wq_v (fun v4 e_v4 => ?_)
  unfold fX12_thrown
  refine wq_v (fun r5 e_r5 => ?_)
  have fin : wq (some (r1.2.1, r1.2.2.1, r3.2.1, r3.2.2.1, r3.2.2.2, r1.2.2.2)) (fun R => KX11 R.1 R.2.1 ∧ KX12 R.2.2.1 R.2.2.2.2.1 ∧ RQ R.1 R.2.1 R.2.2.1 R.2.2.2.2.1) := wq_s ⟨h_r1, h_r3.1, rq_leaf hN e_r1 e_r3 k0 k1 hr⟩
  have A := (an_leaf hN k0 k1 e_r1 e_r3 hr.1 (hr.2.1)).1
  rw [if_pos (show r5 = v2 by rw [e_r5, e_v2]; exact A.1)]
  refine wq_i (fun c => ?_) (fun _ => fin)
  rw [if_pos (by rw [e_v4]; exact lgc0.mpr (A.2 (by rw [← e_v2]; exact c)))]
  exact fin
theorem tl_case31 {N L : Nat} (hN : 3000000000 ≤ N) (hL : L ≤ 3072) (xs : Nat → Int32) (I0 : Nat → Int32) (M0 : Nat → Nat → Int32) (I1 : Nat → Int32) (L1 : Int64) (M1 : Nat → Nat → Int32) (o2 : Nat → Int64) (y4 : Int32) (hy : 0 ≤ y4.toInt ∧ y4.toInt + 6 ≤ (L : Int)) (k0 : KX11 I0 M0) (k1 : KX12 I1 M1) (hr : RQ I0 M0 I1 M1) : wq (fL_case31 N L xs I0 M0 I1 L1 M1 o2 y4) (fun R => KX11 R.1 R.2.1 ∧ KX12 R.2.2.1 R.2.2.2.2.1 ∧ RQ R.1 R.2.1 R.2.2.1 R.2.2.2.2.1) := by
  unfold fL_case31
  have i1 := lx (y := y4) (j := (1 : Int32)) 1 (by decide) (by decide) (by decide) hy hL
  have i2 := lx (y := y4) (j := (2 : Int32)) 2 (by decide) (by decide) (by decide) hy hL
  have i3 := lx (y := y4) (j := (3 : Int32)) 3 (by decide) (by decide) (by decide) hy hL
  have i4 := lx (y := y4) (j := (4 : Int32)) 4 (by decide) (by decide) (by decide) hy hL
  have i5 := lx (y := y4) (j := (5 : Int32)) 5 (by decide) (by decide) (by decide) hy hL
  refine wq_in i1 ?_
  refine wq_in i2 ?_
  refine wq_in i3 ?_
  refine wq_eb (tl_order hN _ _ _ _ _ _ k0) (fun r1 e_r1 h_r1 => ?_)
  refine wq_v (fun v2 e_v2 => ?_)
  refine wq_in i1 ?_
  refine wq_in i2 ?_
  refine wq_in i3 ?_
  refine wq_eb (tt_fX12_order hN _ _ _ _ _ _ k1) (fun r3 e_r3 h_r3 => ?_)
  refine wq_v (fun v4 e_v4 => ?_)
  exact wq_s ⟨h_r1, h_r3.1, rq_order hN e_r1 e_r3 k0 k1 hr⟩
theorem tl_case32 {N L : Nat} (hN : 3000000000 ≤ N) (hL : L ≤ 3072) (xs : Nat → Int32) (I0 : Nat → Int32) (M0 : Nat → Nat → Int32) (I1 : Nat → Int32) (L1 : Int64) (M1 : Nat → Nat → Int32) (o2 : Nat → Int64) (y4 : Int32) (hy : 0 ≤ y4.toInt ∧ y4.toInt + 6 ≤ (L : Int)) (k0 : KX11 I0 M0) (k1 : KX12 I1 M1) (hr : RQ I0 M0 I1 M1) : wq (fL_case32 N L xs I0 M0 I1 L1 M1 o2 y4) (fun R => KX11 R.1 R.2.1 ∧ KX12 R.2.2.1 R.2.2.2.2.1 ∧ RQ R.1 R.2.1 R.2.2.1 R.2.2.2.2.1) := by
  unfold fL_case32
  have i1 := lx (y := y4) (j := (1 : Int32)) 1 (by decide) (by decide) (by decide) hy hL
  have i2 := lx (y := y4) (j := (2 : Int32)) 2 (by decide) (by decide) (by decide) hy hL
  have i3 := lx (y := y4) (j := (3 : Int32)) 3 (by decide) (by decide) (by decide) hy hL
  have i4 := lx (y := y4) (j := (4 : Int32)) 4 (by decide) (by decide) (by decide) hy hL
  have i5 := lx (y := y4) (j := (5 : Int32)) 5 (by decide) (by decide) (by decide) hy hL
  refine wq_in i1 ?_
  refine wq_in i2 ?_
  refine wq_in i3 ?_
  refine wq_eb (tl_same hN _ _ _ _ _ _ k0) (fun r1 e_r1 h_r1 => ?_)
  refine wq_v (fun v2 e_v2 => ?_)
  refine wq_in i1 ?_
  refine wq_in i2 ?_
  refine wq_in i3 ?_
  refine wq_eb (tt_fX12_same hN _ _ _ _ _ _ k1) (fun r3 e_r3 h_r3 => ?_)
  refine wq_v (fun v4 e_v4 => ?_)
  exact wq_s ⟨h_r1, h_r3.2.1, rq_same hN e_r1 e_r3 k0 k1 hr⟩
theorem tl_case33 {N L : Nat} (hN : 3000000000 ≤ N) (hL : L ≤ 3072) (xs : Nat → Int32) (I0 : Nat → Int32) (M0 : Nat → Nat → Int32) (I1 : Nat → Int32) (L1 : Int64) (M1 : Nat → Nat → Int32) (o2 : Nat → Int64) (y4 : Int32) (hy : 0 ≤ y4.toInt ∧ y4.toInt + 6 ≤ (L : Int)) (k0 : KX11 I0 M0) (k1 : KX12 I1 M1) (hr : RQ I0 M0 I1 M1) : wq (fL_case33 N L xs I0 M0 I1 L1 M1 o2 y4) (fun R => KX11 R.1 R.2.1 ∧ KX12 R.2.2.1 R.2.2.2.2.1 ∧ RQ R.1 R.2.1 R.2.2.1 R.2.2.2.2.1) := by
  unfold fL_case33
  have i1 := lx (y := y4) (j := (1 : Int32)) 1 (by decide) (by decide) (by decide) hy hL
  have i2 := lx (y := y4) (j := (2 : Int32)) 2 (by decide) (by decide) (by decide) hy hL
  have i3 := lx (y := y4) (j := (3 : Int32)) 3 (by decide) (by decide) (by decide) hy hL
  have i4 := lx (y := y4) (j := (4 : Int32)) 4 (by decide) (by decide) (by decide) hy hL
  have i5 := lx (y := y4) (j := (5 : Int32)) 5 (by decide) (by decide) (by decide) hy hL
  refine wq_in i1 ?_
  refine wq_in i2 ?_
  refine wq_eb (tl_births hN _ _ _ _ _ k0) (fun r1 e_r1 h_r1 => ?_)
  refine wq_v (fun v2 e_v2 => ?_)
  refine wq_in i1 ?_
  refine wq_in i2 ?_
  refine wq_eb (tt_fX12_births hN _ _ _ _ _ k1) (fun r3 e_r3 h_r3 => ?_)
  refine wq_v (fun v4 e_v4 => ?_)
  exact wq_s ⟨h_r1, h_r3.1, rq_births hN e_r1 e_r3 k0 k1 hr⟩
theorem tl_case34 {N L : Nat} (hN : 3000000000 ≤ N) (hL : L ≤ 3072) (xs : Nat → Int32) (I0 : Nat → Int32) (M0 : Nat → Nat → Int32) (I1 : Nat → Int32) (L1 : Int64) (M1 : Nat → Nat → Int32) (o2 : Nat → Int64) (y4 : Int32) (hy : 0 ≤ y4.toInt ∧ y4.toInt + 6 ≤ (L : Int)) (k0 : KX11 I0 M0) (k1 : KX12 I1 M1) (hr : RQ I0 M0 I1 M1) : wq (fL_case34 N L xs I0 M0 I1 L1 M1 o2 y4) (fun R => KX11 R.1 R.2.1 ∧ KX12 R.2.2.1 R.2.2.2.2.1 ∧ RQ R.1 R.2.1 R.2.2.1 R.2.2.2.2.1) := by
  unfold fL_case34
  have i1 := lx (y := y4) (j := (1 : Int32)) 1 (by decide) (by decide) (by decide) hy hL
  have i2 := lx (y := y4) (j := (2 : Int32)) 2 (by decide) (by decide) (by decide) hy hL
  have i3 := lx (y := y4) (j := (3 : Int32)) 3 (by decide) (by decide) (by decide) hy hL
  have i4 := lx (y := y4) (j := (4 : Int32)) 4 (by decide) (by decide) (by decide) hy hL
  have i5 := lx (y := y4) (j := (5 : Int32)) 5 (by decide) (by decide) (by decide) hy hL
  refine wq_eb (tt_fX11_tree hN _ _ k0) (fun r1 e_r1 h_r1 => ?_)
  refine wq_eb (tt_fX12_tree hN _ _ _ k1) (fun r2 e_r2 h_r2 => ?_)
  exact wq_s ⟨h_r1.1, h_r2.1, rq_tree hN e_r1 e_r2 k0 k1 hr⟩
theorem tl_case35 {N L : Nat} (hN : 3000000000 ≤ N) (hL : L ≤ 3072) (xs : Nat → Int32) (I0 : Nat → Int32) (M0 : Nat → Nat → Int32) (I1 : Nat → Int32) (L1 : Int64) (M1 : Nat → Nat → Int32) (o2 : Nat → Int64) (y4 : Int32) (hy : 0 ≤ y4.toInt ∧ y4.toInt + 6 ≤ (L : Int)) (k0 : KX11 I0 M0) (k1 : KX12 I1 M1) (hr : RQ I0 M0 I1 M1) : wq (fL_case35 N L xs I0 M0 I1 L1 M1 o2 y4) (fun R => KX11 R.1 R.2.1 ∧ KX12 R.2.2.1 R.2.2.2.2.1 ∧ RQ R.1 R.2.1 R.2.2.1 R.2.2.2.2.1) := by
  unfold fL_case35
  have i1 := lx (y := y4) (j := (1 : Int32)) 1 (by decide) (by decide) (by decide) hy hL
  have i2 := lx (y := y4) (j := (2 : Int32)) 2 (by decide) (by decide) (by decide) hy hL
  have i3 := lx (y := y4) (j := (3 : Int32)) 3 (by decide) (by decide) (by decide) hy hL
  have i4 := lx (y := y4) (j := (4 : Int32)) 4 (by decide) (by decide) (by decide) hy hL
  have i5 := lx (y := y4) (j := (5 : Int32)) 5 (by decide) (by decide) (by decide) hy hL
  refine wq_in i1 ?_
  refine wq_eb (tl_whence hN _ _ _ _ k0) (fun r1 e_r1 h_r1 => ?_)
  refine wq_v (fun v2 e_v2 => ?_)
  refine wq_in i1 ?_
  refine wq_eb (tt_fX12_whence hN _ _ _ _ k1) (fun r3 e_r3 h_r3 => ?_)
  refine wq_v (fun v4 e_v4 => ?_)
  exact wq_s ⟨h_r1, h_r3.2.1, rq_whence hN e_r1 e_r3 k0 k1 hr⟩
theorem tl_case36 {N L : Nat} (hN : 3000000000 ≤ N) (hL : L ≤ 3072) (xs : Nat → Int32) (I0 : Nat → Int32) (M0 : Nat → Nat → Int32) (I1 : Nat → Int32) (L1 : Int64) (M1 : Nat → Nat → Int32) (o2 : Nat → Int64) (y4 : Int32) (hy : 0 ≤ y4.toInt ∧ y4.toInt + 6 ≤ (L : Int)) (k0 : KX11 I0 M0) (k1 : KX12 I1 M1) (hr : RQ I0 M0 I1 M1) : wq (fL_case36 N L xs I0 M0 I1 L1 M1 o2 y4) (fun R => KX11 R.1 R.2.1 ∧ KX12 R.2.2.1 R.2.2.2.2.1 ∧ RQ R.1 R.2.1 R.2.2.1 R.2.2.2.2.1) := by
  unfold fL_case36
  have i1 := lx (y := y4) (j := (1 : Int32)) 1 (by decide) (by decide) (by decide) hy hL
  have i2 := lx (y := y4) (j := (2 : Int32)) 2 (by decide) (by decide) (by decide) hy hL
  have i3 := lx (y := y4) (j := (3 : Int32)) 3 (by decide) (by decide) (by decide) hy hL
  have i4 := lx (y := y4) (j := (4 : Int32)) 4 (by decide) (by decide) (by decide) hy hL
  have i5 := lx (y := y4) (j := (5 : Int32)) 5 (by decide) (by decide) (by decide) hy hL
  refine wq_in i1 ?_
  refine wq_in i2 ?_
  refine wq_in i3 ?_
  refine wq_eb (tl_life hN _ _ _ _ _ _ k0) (fun r1 e_r1 h_r1 => ?_)
  refine wq_v (fun v2 e_v2 => ?_)
  refine wq_in i1 ?_
  refine wq_in i2 ?_
  refine wq_in i3 ?_
  refine wq_eb (tt_fX12_life hN _ _ _ _ _ _ k1) (fun r3 e_r3 h_r3 => ?_)
  refine wq_v (fun v4 e_v4 => ?_)
  exact wq_s ⟨h_r1, h_r3.2.1, rq_life hN e_r1 e_r3 k0 k1 hr⟩
theorem tl_case37 {N L : Nat} (hN : 3000000000 ≤ N) (hL : L ≤ 3072) (xs : Nat → Int32) (I0 : Nat → Int32) (M0 : Nat → Nat → Int32) (I1 : Nat → Int32) (L1 : Int64) (M1 : Nat → Nat → Int32) (o2 : Nat → Int64) (y4 : Int32) (hy : 0 ≤ y4.toInt ∧ y4.toInt + 6 ≤ (L : Int)) (k0 : KX11 I0 M0) (k1 : KX12 I1 M1) (hr : RQ I0 M0 I1 M1) : wq (fL_case37 N L xs I0 M0 I1 L1 M1 o2 y4) (fun R => KX11 R.1 R.2.1 ∧ KX12 R.2.2.1 R.2.2.2.2.1 ∧ RQ R.1 R.2.1 R.2.2.1 R.2.2.2.2.1) := by
  unfold fL_case37
  have i1 := lx (y := y4) (j := (1 : Int32)) 1 (by decide) (by decide) (by decide) hy hL
  have i2 := lx (y := y4) (j := (2 : Int32)) 2 (by decide) (by decide) (by decide) hy hL
  have i3 := lx (y := y4) (j := (3 : Int32)) 3 (by decide) (by decide) (by decide) hy hL
  have i4 := lx (y := y4) (j := (4 : Int32)) 4 (by decide) (by decide) (by decide) hy hL
  have i5 := lx (y := y4) (j := (5 : Int32)) 5 (by decide) (by decide) (by decide) hy hL
  refine wq_in i1 ?_
  refine wq_in i2 ?_
  refine wq_eb (tl_fate hN _ _ _ _ _ k0) (fun r1 e_r1 h_r1 => ?_)
  refine wq_v (fun v2 e_v2 => ?_)
  refine wq_in i1 ?_
  refine wq_in i2 ?_
  refine wq_eb (tt_fX12_fate hN _ _ _ _ _ k1) (fun r3 e_r3 h_r3 => ?_)
  refine wq_v (fun v4 e_v4 => ?_)
  exact wq_s ⟨h_r1, h_r3.2.1, rq_fate hN e_r1 e_r3 k0 k1 hr⟩
theorem tl_case38 {N L : Nat} (hN : 3000000000 ≤ N) (hL : L ≤ 3072) (xs : Nat → Int32) (I0 : Nat → Int32) (M0 : Nat → Nat → Int32) (I1 : Nat → Int32) (L1 : Int64) (M1 : Nat → Nat → Int32) (o2 : Nat → Int64) (y4 : Int32) (hy : 0 ≤ y4.toInt ∧ y4.toInt + 6 ≤ (L : Int)) (k0 : KX11 I0 M0) (k1 : KX12 I1 M1) (hr : RQ I0 M0 I1 M1) : wq (fL_case38 N L xs I0 M0 I1 L1 M1 o2 y4) (fun R => KX11 R.1 R.2.1 ∧ KX12 R.2.2.1 R.2.2.2.2.1 ∧ RQ R.1 R.2.1 R.2.2.1 R.2.2.2.2.1) := by
  unfold fL_case38
  have i1 := lx (y := y4) (j := (1 : Int32)) 1 (by decide) (by decide) (by decide) hy hL
  have i2 := lx (y := y4) (j := (2 : Int32)) 2 (by decide) (by decide) (by decide) hy hL
  have i3 := lx (y := y4) (j := (3 : Int32)) 3 (by decide) (by decide) (by decide) hy hL
  have i4 := lx (y := y4) (j := (4 : Int32)) 4 (by decide) (by decide) (by decide) hy hL
  have i5 := lx (y := y4) (j := (5 : Int32)) 5 (by decide) (by decide) (by decide) hy hL
  refine wq_in i1 ?_
  refine wq_eb (tl_fates hN _ _ _ _ k0) (fun r1 e_r1 h_r1 => ?_)
  refine wq_v (fun v2 e_v2 => ?_)
  refine wq_in i1 ?_
  refine wq_eb (tt_fX12_fates hN _ _ _ _ k1) (fun r3 e_r3 h_r3 => ?_)
  refine wq_v (fun v4 e_v4 => ?_)
  exact wq_s ⟨h_r1, h_r3.1, rq_fates hN e_r1 e_r3 k0 k1 hr⟩
theorem tl_case39 {N L : Nat} (hN : 3000000000 ≤ N) (hL : L ≤ 3072) (xs : Nat → Int32) (I0 : Nat → Int32) (M0 : Nat → Nat → Int32) (I1 : Nat → Int32) (L1 : Int64) (M1 : Nat → Nat → Int32) (o2 : Nat → Int64) (y4 : Int32) (hy : 0 ≤ y4.toInt ∧ y4.toInt + 6 ≤ (L : Int)) (k0 : KX11 I0 M0) (k1 : KX12 I1 M1) (hr : RQ I0 M0 I1 M1) : wq (fL_case39 N L xs I0 M0 I1 L1 M1 o2 y4) (fun R => KX11 R.1 R.2.1 ∧ KX12 R.2.2.1 R.2.2.2.2.1 ∧ RQ R.1 R.2.1 R.2.2.1 R.2.2.2.2.1) := by
  unfold fL_case39
  have i1 := lx (y := y4) (j := (1 : Int32)) 1 (by decide) (by decide) (by decide) hy hL
  have i2 := lx (y := y4) (j := (2 : Int32)) 2 (by decide) (by decide) (by decide) hy hL
  have i3 := lx (y := y4) (j := (3 : Int32)) 3 (by decide) (by decide) (by decide) hy hL
  have i4 := lx (y := y4) (j := (4 : Int32)) 4 (by decide) (by decide) (by decide) hy hL
  have i5 := lx (y := y4) (j := (5 : Int32)) 5 (by decide) (by decide) (by decide) hy hL
  refine wq_in i1 ?_
  refine wq_in i2 ?_
  refine wq_eb (tl_hits hN _ _ _ _ _ k0) (fun r1 e_r1 h_r1 => ?_)
  refine wq_v (fun v2 e_v2 => ?_)
  refine wq_in i1 ?_
  refine wq_in i2 ?_
  refine wq_eb (tt_fX12_hits hN _ _ _ _ _ k1) (fun r3 e_r3 h_r3 => ?_)
  refine wq_v (fun v4 e_v4 => ?_)
  exact wq_s ⟨h_r1, h_r3.1, rq_hits hN e_r1 e_r3 k0 k1 hr⟩
set_option maxRecDepth 100000 in
theorem tl_body {N L : Nat} (hN : 3000000000 ≤ N) (hL : L ≤ 3072) (xs : Nat → Int32) (I0 : Nat → Int32) (M0 : Nat → Nat → Int32) (I1 : Nat → Int32) (L1 : Int64) (M1 : Nat → Nat → Int32) (o2 : Nat → Int64) (y4 : Int32) (hy : 0 ≤ y4.toInt ∧ y4.toInt + 6 ≤ (L : Int)) (k0 : KX11 I0 M0) (k1 : KX12 I1 M1) (hr : RQ I0 M0 I1 M1) : wq (fL_body N L xs I0 M0 I1 L1 M1 o2 y4) (fun R => KX11 R.1 R.2.1 ∧ KX12 R.2.2.1 R.2.2.2.2.1 ∧ RQ R.1 R.2.1 R.2.2.1 R.2.2.2.2.1) := by
  unfold fL_body
  refine wq_in ⟨hy.1, by omega⟩ ?_
  refine wq_i (fun _ => tl_case0 hN hL xs I0 M0 I1 L1 M1 o2 y4 hy k0 k1 hr) (fun _ => ?_)
  refine wq_i (fun _ => tl_case1 hN hL xs I0 M0 I1 L1 M1 o2 y4 hy k0 k1 hr) (fun _ => ?_)
  refine wq_i (fun _ => tl_case2 hN hL xs I0 M0 I1 L1 M1 o2 y4 hy k0 k1 hr) (fun _ => ?_)
  refine wq_i (fun _ => tl_case3 hN hL xs I0 M0 I1 L1 M1 o2 y4 hy k0 k1 hr) (fun _ => ?_)
  refine wq_i (fun _ => tl_case4 hN hL xs I0 M0 I1 L1 M1 o2 y4 hy k0 k1 hr) (fun _ => ?_)
  refine wq_i (fun _ => tl_case5 hN hL xs I0 M0 I1 L1 M1 o2 y4 hy k0 k1 hr) (fun _ => ?_)
  refine wq_i (fun _ => tl_case6 hN hL xs I0 M0 I1 L1 M1 o2 y4 hy k0 k1 hr) (fun _ => ?_)
  refine wq_i (fun _ => tl_case7 hN hL xs I0 M0 I1 L1 M1 o2 y4 hy k0 k1 hr) (fun _ => ?_)
  refine wq_i (fun _ => tl_case8 hN hL xs I0 M0 I1 L1 M1 o2 y4 hy k0 k1 hr) (fun _ => ?_)
  refine wq_i (fun _ => tl_case9 hN hL xs I0 M0 I1 L1 M1 o2 y4 hy k0 k1 hr) (fun _ => ?_)
  refine wq_i (fun _ => tl_case10 hN hL xs I0 M0 I1 L1 M1 o2 y4 hy k0 k1 hr) (fun _ => ?_)
  refine wq_i (fun _ => tl_case11 hN hL xs I0 M0 I1 L1 M1 o2 y4 hy k0 k1 hr) (fun _ => ?_)
  refine wq_i (fun _ => tl_case12 hN hL xs I0 M0 I1 L1 M1 o2 y4 hy k0 k1 hr) (fun _ => ?_)
  refine wq_i (fun _ => tl_case13 hN hL xs I0 M0 I1 L1 M1 o2 y4 hy k0 k1 hr) (fun _ => ?_)
  refine wq_i (fun _ => tl_case14 hN hL xs I0 M0 I1 L1 M1 o2 y4 hy k0 k1 hr) (fun _ => ?_)
  refine wq_i (fun _ => tl_case15 hN hL xs I0 M0 I1 L1 M1 o2 y4 hy k0 k1 hr) (fun _ => ?_)
  refine wq_i (fun _ => tl_case16 hN hL xs I0 M0 I1 L1 M1 o2 y4 hy k0 k1 hr) (fun _ => ?_)
  refine wq_i (fun _ => tl_case17 hN hL xs I0 M0 I1 L1 M1 o2 y4 hy k0 k1 hr) (fun _ => ?_)
  refine wq_i (fun _ => tl_case18 hN hL xs I0 M0 I1 L1 M1 o2 y4 hy k0 k1 hr) (fun _ => ?_)
  refine wq_i (fun _ => tl_case19 hN hL xs I0 M0 I1 L1 M1 o2 y4 hy k0 k1 hr) (fun _ => ?_)
  refine wq_i (fun _ => tl_case20 hN hL xs I0 M0 I1 L1 M1 o2 y4 hy k0 k1 hr) (fun _ => ?_)
  refine wq_i (fun _ => tl_case21 hN hL xs I0 M0 I1 L1 M1 o2 y4 hy k0 k1 hr) (fun _ => ?_)
  refine wq_i (fun _ => tl_case22 hN hL xs I0 M0 I1 L1 M1 o2 y4 hy k0 k1 hr) (fun _ => ?_)
  refine wq_i (fun _ => tl_case23 hN hL xs I0 M0 I1 L1 M1 o2 y4 hy k0 k1 hr) (fun _ => ?_)
  refine wq_i (fun _ => tl_case24 hN hL xs I0 M0 I1 L1 M1 o2 y4 hy k0 k1 hr) (fun _ => ?_)
  refine wq_i (fun _ => tl_case25 hN hL xs I0 M0 I1 L1 M1 o2 y4 hy k0 k1 hr) (fun _ => ?_)
  refine wq_i (fun _ => tl_case26 hN hL xs I0 M0 I1 L1 M1 o2 y4 hy k0 k1 hr) (fun _ => ?_)
  refine wq_i (fun _ => tl_case27 hN hL xs I0 M0 I1 L1 M1 o2 y4 hy k0 k1 hr) (fun _ => ?_)
  refine wq_i (fun _ => tl_case28 hN hL xs I0 M0 I1 L1 M1 o2 y4 hy k0 k1 hr) (fun _ => ?_)
  refine wq_i (fun _ => tl_case29 hN hL xs I0 M0 I1 L1 M1 o2 y4 hy k0 k1 hr) (fun _ => ?_)
  refine wq_i (fun _ => tl_case30 hN hL xs I0 M0 I1 L1 M1 o2 y4 hy k0 k1 hr) (fun _ => ?_)
  refine wq_i (fun _ => tl_case31 hN hL xs I0 M0 I1 L1 M1 o2 y4 hy k0 k1 hr) (fun _ => ?_)
  refine wq_i (fun _ => tl_case32 hN hL xs I0 M0 I1 L1 M1 o2 y4 hy k0 k1 hr) (fun _ => ?_)
  refine wq_i (fun _ => tl_case33 hN hL xs I0 M0 I1 L1 M1 o2 y4 hy k0 k1 hr) (fun _ => ?_)
  refine wq_i (fun _ => tl_case34 hN hL xs I0 M0 I1 L1 M1 o2 y4 hy k0 k1 hr) (fun _ => ?_)
  refine wq_i (fun _ => tl_case35 hN hL xs I0 M0 I1 L1 M1 o2 y4 hy k0 k1 hr) (fun _ => ?_)
  refine wq_i (fun _ => tl_case36 hN hL xs I0 M0 I1 L1 M1 o2 y4 hy k0 k1 hr) (fun _ => ?_)
  refine wq_i (fun _ => tl_case37 hN hL xs I0 M0 I1 L1 M1 o2 y4 hy k0 k1 hr) (fun _ => ?_)
  refine wq_i (fun _ => tl_case38 hN hL xs I0 M0 I1 L1 M1 o2 y4 hy k0 k1 hr) (fun _ => ?_)
  refine wq_i (fun _ => tl_case39 hN hL xs I0 M0 I1 L1 M1 o2 y4 hy k0 k1 hr) (fun _ => ?_)
  exact wq_s ⟨k0, k1, hr⟩

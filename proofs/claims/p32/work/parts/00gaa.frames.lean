def Eqo {α : Type} (W : List Nat) (a b : Nat → α) : Prop := ∀ k, ¬ k ∈ W → a k = b k
theorem Eqo.refl {α : Type} (W : List Nat) (a : Nat → α) : Eqo W a a := fun _ _ => rfl
theorem Eqo.tr {α : Type} {W V : List Nat} {a b c : Nat → α} (h : Eqo V a b) (hs : ∀ x ∈ V, x ∈ W) (g : Eqo W b c) : Eqo W a c := fun k hk => (h k (fun q => hk (hs k q))).trans (g k hk)
theorem Eqo.nil {α : Type} {a b : Nat → α} (h : Eqo [] a b) : a = b := funext (fun k => h k (by intro q; cases q))
theorem Eqo.eq {α : Type} {W : List Nat} {a b c : Nat → α} (h : a = b) (g : Eqo W b c) : Eqo W a c := by rw [h]; exact g
theorem Eqo.u {W : List Nat} {a b : Nat → Int32} {n : Nat} {x : Int32} (hn : n ∈ W) (g : Eqo W a b) : Eqo W (upd a n x) b := fun k hk => by
  show (if k = n then x else a k) = b k
  rw [if_neg (fun e => hk (by rw [e]; exact hn))]
  exact g k hk
theorem Eqo.i {α : Type} {W : List Nat} {a b c : Nat → α} {o n : Nat} (hn : ∀ j, j < n → o + j ∈ W) (g : Eqo W a b) : Eqo W (wb_in a o n c) b := fun k hk => by
  show (if o ≤ k ∧ k < o + n then c (k - o) else a k) = b k
  rw [if_neg (fun e => hk (by have := hn (k - o) (by omega); rwa [show o + (k - o) = k by omega] at this))]
  exact g k hk
theorem Eqo.m {W : List Nat} {a b : Nat → Nat → Int32} {n i : Nat} {x : Int32} (hn : n ∈ W) (g : Eqo W a b) : Eqo W (wb_um a n i x) b := fun k hk => by
  show (if k = n then upd (a n) i x else a k) = b k
  rw [if_neg (fun e => hk (by rw [e]; exact hn))]
  exact g k hk
theorem Eqo.mm {W : List Nat} {a b : Nat → Nat → Int32} {n : Nat} {f : Nat → Int32} (hn : n ∈ W) (g : Eqo W a b) : Eqo W (wb_mm a n f) b := fun k hk => by
  show (if k = n then f else a k) = b k
  rw [if_neg (fun e => hk (by rw [e]; exact hn))]
  exact g k hk
theorem fr_i {c : Prop} [Decidable c] {α : Type} {A B : Option α} {R : α} (h : (if c then A else B) = some R) : A = some R ∨ B = some R := by
  by_cases hc : c
  · rw [if_pos hc] at h; exact Or.inl h
  · rw [if_neg hc] at h; exact Or.inr h
theorem fr_hp {α β : Type} {x : Option (Nat ⊕ α)} {g : Nat → Option β} {f : α → Option β} {R : β} (h : wb_hp x g f = some R) : (∃ k, x = some (.inl k) ∧ g k = some R) ∨ ∃ r, x = some (.inr r) ∧ f r = some R := by
  match x, h with
  | none, h => cases h
  | some (.inl k), h => exact Or.inl ⟨k, rfl, h⟩
  | some (.inr a), h => exact Or.inr ⟨a, rfl, h⟩

abbrev fwI_X11_feed : List Nat := [0, 1, 2, 3, 4, 5, 6, 7, 8]
abbrev fwM_X11_feed : List Nat := [0]
theorem fr_fX11_feed {N : Nat} {I0 : Nat → Int32} {M0 : Nat → Nat → Int32} {x1 : Int32} {x2 : Int32} {x3 : Int32} {x4 : Int32} {x5 : Int32} {R} (h : fX11_feed N I0 M0 x1 x2 x3 x4 x5 = some R) : Eqo fwI_X11_feed R.2.1 I0 ∧ Eqo fwM_X11_feed R.2.2 M0 := by
  unfold fX11_feed at h
  obtain ⟨r1, -, h⟩ := wb_b h
  rcases fr_i h with h | h
  · have h := Option.some.inj h
    subst h
    exact ⟨(Eqo.refl fwI_X11_feed I0), (Eqo.refl fwM_X11_feed M0)⟩
  · obtain ⟨r2, -, h⟩ := wb_b h
    obtain ⟨I0_3, e_I0_3, h⟩ := wb_v h
    have f_I0_3 := Eqo.eq e_I0_3 (Eqo.i (by decide) (Eqo.refl fwI_X11_feed I0))
    obtain ⟨M0_4, e_M0_4, h⟩ := wb_v h
    have f_M0_4 := Eqo.eq e_M0_4 (Eqo.i (by decide) (Eqo.refl fwM_X11_feed M0))
    obtain ⟨r5, -, h⟩ := wb_b h
    obtain ⟨I0_6, e_I0_6, h⟩ := wb_v h
    have f_I0_6 := Eqo.eq e_I0_6 (Eqo.i (by decide) f_I0_3)
    obtain ⟨M0_7, e_M0_7, h⟩ := wb_v h
    have f_M0_7 := Eqo.eq e_M0_7 (Eqo.i (by decide) f_M0_4)
    obtain ⟨r8, -, h⟩ := wb_b h
    obtain ⟨I0_9, e_I0_9, h⟩ := wb_v h
    have f_I0_9 := Eqo.eq e_I0_9 (Eqo.i (by decide) f_I0_6)
    obtain ⟨M0_10, e_M0_10, h⟩ := wb_v h
    have f_M0_10 := Eqo.eq e_M0_10 (Eqo.i (by decide) f_M0_7)
    obtain ⟨r11, -, h⟩ := wb_b h
    obtain ⟨I0_12, e_I0_12, h⟩ := wb_v h
    have f_I0_12 := Eqo.eq e_I0_12 (Eqo.i (by decide) f_I0_9)
    obtain ⟨M0_13, e_M0_13, h⟩ := wb_v h
    have f_M0_13 := Eqo.eq e_M0_13 (Eqo.i (by decide) f_M0_10)
    obtain ⟨r14, -, h⟩ := wb_b h
    obtain ⟨I0_15, e_I0_15, h⟩ := wb_v h
    have f_I0_15 := Eqo.eq e_I0_15 (Eqo.i (by decide) f_I0_12)
    obtain ⟨M0_16, e_M0_16, h⟩ := wb_v h
    have f_M0_16 := Eqo.eq e_M0_16 (Eqo.i (by decide) f_M0_13)
    have h := Option.some.inj h
    subst h
    exact ⟨f_I0_15, f_M0_16⟩
abbrev fwI_X11_house : List Nat := [0, 1, 2, 3, 4, 5, 6, 7, 8, 9, 10, 11, 12]
abbrev fwM_X11_house : List Nat := [0, 1, 2, 3, 4, 5, 6, 7, 8, 9, 10, 11, 12]
theorem fr_fX11_house {N : Nat} {I0 : Nat → Int32} {M0 : Nat → Nat → Int32} {x1 : Int32} {R} (h : fX11_house N I0 M0 x1 = some (.inr R)) : Eqo fwI_X11_house R.2.1 I0 ∧ Eqo fwM_X11_house R.2.2 M0 := by
  unfold fX11_house at h
  obtain ⟨r1, -, h⟩ := wb_b h
  obtain ⟨r2, -, h⟩ := wb_xr h
  have h := wb_okr h
  obtain ⟨r3, -, h⟩ := wb_b h
  obtain ⟨I0_4, e_I0_4, h⟩ := wb_v h
  have f_I0_4 := Eqo.eq e_I0_4 (Eqo.i (by decide) (Eqo.refl fwI_X11_house I0))
  obtain ⟨M0_5, e_M0_5, h⟩ := wb_v h
  have f_M0_5 := Eqo.eq e_M0_5 (Eqo.i (by decide) (Eqo.refl fwM_X11_house M0))
  obtain ⟨r6, -, h⟩ := wb_b h
  obtain ⟨I0_7, e_I0_7, h⟩ := wb_v h
  have f_I0_7 := Eqo.eq e_I0_7 (Eqo.i (by decide) f_I0_4)
  obtain ⟨M0_8, e_M0_8, h⟩ := wb_v h
  have f_M0_8 := Eqo.eq e_M0_8 (Eqo.i (by decide) f_M0_5)
  obtain ⟨r9b, -, h⟩ := wb_b h
  obtain ⟨I0_10, e_I0_10, h⟩ := wb_v h
  have f_I0_10 := Eqo.eq e_I0_10 (Eqo.i (by decide) (Eqo.i (by decide) f_I0_7))
  obtain ⟨M0_11, e_M0_11, h⟩ := wb_v h
  have f_M0_11 := Eqo.eq e_M0_11 (Eqo.i (by decide) (Eqo.i (by decide) f_M0_8))
  rcases fr_i h with h | h
  · have h := Option.some.inj h
    subst h
    exact ⟨f_I0_10, f_M0_11⟩
  · obtain ⟨r12, -, h⟩ := wb_b h
    obtain ⟨I0_13, e_I0_13, h⟩ := wb_v h
    have f_I0_13 := Eqo.eq e_I0_13 (Eqo.i (by decide) f_I0_10)
    obtain ⟨M0_14, e_M0_14, h⟩ := wb_v h
    have f_M0_14 := Eqo.eq e_M0_14 (Eqo.i (by decide) f_M0_11)
    have h := Option.some.inj h
    subst h
    exact ⟨f_I0_13, f_M0_14⟩
abbrev fwI_X11_wheel : List Nat := [0, 1, 2, 3, 4, 5, 6, 7, 8]
abbrev fwM_X11_wheel : List Nat := [0, 13, 14]
theorem fr_fX11_wheel {N : Nat} {I0 : Nat → Int32} {M0 : Nat → Nat → Int32} {x1 : Int32} {x2 : Int32} {x3 : Int32} {R} (h : fX11_wheel N I0 M0 x1 x2 x3 = some (.inr R)) : Eqo fwI_X11_wheel R.2.1 I0 ∧ Eqo fwM_X11_wheel R.2.2 M0 := by
  unfold fX11_wheel at h
  obtain ⟨r1, -, h⟩ := wb_xr h
  obtain ⟨r2, -, h⟩ := wb_b h
  obtain ⟨r3, -, h⟩ := wb_xr h
  have h := wb_okr h
  obtain ⟨r4, -, h⟩ := wb_b h
  obtain ⟨I0_5, e_I0_5, h⟩ := wb_v h
  have f_I0_5 := Eqo.eq e_I0_5 (Eqo.i (by decide) (Eqo.refl fwI_X11_wheel I0))
  obtain ⟨M0_6, e_M0_6, h⟩ := wb_v h
  have f_M0_6 := Eqo.eq e_M0_6 (Eqo.i (by decide) (Eqo.refl fwM_X11_wheel M0))
  obtain ⟨r7, -, h⟩ := wb_b h
  obtain ⟨I0_8, e_I0_8, h⟩ := wb_v h
  have f_I0_8 := Eqo.eq e_I0_8 (Eqo.i (by decide) (Eqo.i (by decide) f_I0_5))
  obtain ⟨M0_9, e_M0_9, h⟩ := wb_v h
  have f_M0_9 := Eqo.eq e_M0_9 (Eqo.i (by decide) (Eqo.i (by decide) f_M0_6))
  rcases fr_i h with h | h
  · have h := Option.some.inj h
    subst h
    exact ⟨f_I0_8, f_M0_9⟩
  · obtain ⟨r10, -, h⟩ := wb_b h
    obtain ⟨I0_11, e_I0_11, h⟩ := wb_v h
    have f_I0_11 := Eqo.eq e_I0_11 (Eqo.i (by decide) f_I0_8)
    obtain ⟨M0_12, e_M0_12, h⟩ := wb_v h
    have f_M0_12 := Eqo.eq e_M0_12 (Eqo.i (by decide) f_M0_9)
    have h := Option.some.inj h
    subst h
    exact ⟨f_I0_11, f_M0_12⟩
abbrev fwI_X11_count : List Nat := []
abbrev fwM_X11_count : List Nat := [28, 29, 30, 31, 32, 33]
theorem fr_fX11_count {N : Nat} {I0 : Nat → Int32} {M0 : Nat → Nat → Int32} {x1 : Int32} {R} (h : fX11_count N I0 M0 x1 = some (.inr R)) : Eqo fwI_X11_count R.2.1 I0 ∧ Eqo fwM_X11_count R.2.2 M0 := by
  unfold fX11_count at h
  rcases fr_i h with h | h
  · have h := wb_okr h
    have h := Option.some.inj h
    subst h
    exact ⟨(Eqo.refl fwI_X11_count I0), (Eqo.refl fwM_X11_count M0)⟩
  · rcases fr_i h with h | h
    · have h := wb_okr h
      have h := Option.some.inj h
      subst h
      exact ⟨(Eqo.refl fwI_X11_count I0), (Eqo.refl fwM_X11_count M0)⟩
    · rcases fr_i h with h | h
      · have h := wb_okr h
        obtain ⟨r1, -, h⟩ := wb_b h
        have h := Option.some.inj h
        subst h
        exact ⟨(Eqo.refl fwI_X11_count I0), (Eqo.refl fwM_X11_count M0)⟩
      · rcases fr_i h with h | h
        · have h := wb_okr h
          obtain ⟨r2, -, h⟩ := wb_b h
          obtain ⟨I0_3, e_I0_3, h⟩ := wb_v h
          have f_I0_3 := Eqo.eq e_I0_3 (Eqo.i (by decide) (Eqo.refl fwI_X11_count I0))
          obtain ⟨M0_4, e_M0_4, h⟩ := wb_v h
          have f_M0_4 := Eqo.eq e_M0_4 (Eqo.i (by decide) (Eqo.refl fwM_X11_count M0))
          have h := Option.some.inj h
          subst h
          exact ⟨f_I0_3, f_M0_4⟩
        · rcases fr_i h with h | h
          · have h := wb_okr h
            have h := Option.some.inj h
            subst h
            exact ⟨(Eqo.refl fwI_X11_count I0), (Eqo.refl fwM_X11_count M0)⟩
          · rcases fr_i h with h | h
            · have h := wb_okr h
              obtain ⟨r5, -, h⟩ := wb_b h
              obtain ⟨I0_6, e_I0_6, h⟩ := wb_v h
              have f_I0_6 := Eqo.eq e_I0_6 (Eqo.i (by decide) (Eqo.refl fwI_X11_count I0))
              obtain ⟨M0_7, e_M0_7, h⟩ := wb_v h
              have f_M0_7 := Eqo.eq e_M0_7 (Eqo.i (by decide) (Eqo.refl fwM_X11_count M0))
              have h := Option.some.inj h
              subst h
              exact ⟨f_I0_6, f_M0_7⟩
            · cases h
abbrev fwI_X11_best : List Nat := [13, 14, 15, 16, 17, 18, 19]
abbrev fwM_X11_best : List Nat := [16]
theorem fr_fX11_best_J29 {N : Nat} {x1 : Int32} {x2 : Int32} {x3 : Int32} {x4 : Int32} {x5 : Int32} {I0_j29 : Nat → Int32} {M0_j29 : Nat → Nat → Int32} {y29_6 : Int32} {z29_0 : Int32} {R} (h : fX11_best_J29 N x1 x2 x3 x4 x5 I0_j29 M0_j29 y29_6 z29_0 = some (.inr R)) : Eqo fwI_X11_best R.2.1 I0_j29 ∧ Eqo fwM_X11_best R.2.2 M0_j29 := by
  unfold fX11_best_J29 at h
  obtain ⟨r1, -, h⟩ := wb_xr h
  obtain ⟨r2, -, h⟩ := wb_b h
  obtain ⟨r3, -, h⟩ := wb_xr h
  have h := wb_okr h
  obtain ⟨r4, -, h⟩ := wb_b h
  obtain ⟨I0_5, e_I0_5, h⟩ := wb_v h
  have f_I0_5 := Eqo.eq e_I0_5 (Eqo.i (by decide) (Eqo.refl fwI_X11_best I0_j29))
  obtain ⟨M0_6, e_M0_6, h⟩ := wb_v h
  have f_M0_6 := Eqo.eq e_M0_6 (Eqo.i (by decide) (Eqo.refl fwM_X11_best M0_j29))
  obtain ⟨r7, -, h⟩ := wb_b h
  obtain ⟨I0_8, e_I0_8, h⟩ := wb_v h
  have f_I0_8 := Eqo.eq e_I0_8 (Eqo.i (by decide) f_I0_5)
  obtain ⟨M0_9, e_M0_9, h⟩ := wb_v h
  have f_M0_9 := Eqo.eq e_M0_9 (Eqo.i (by decide) f_M0_6)
  have h := Option.some.inj h
  subst h
  exact ⟨f_I0_8, f_M0_9⟩
theorem fr_fX11_best_J28 {N : Nat} {x1 : Int32} {x2 : Int32} {x3 : Int32} {x4 : Int32} {x5 : Int32} {I0_j28 : Nat → Int32} {M0_j28 : Nat → Nat → Int32} {y28_6 : Int32} {R} (h : fX11_best_J28 N x1 x2 x3 x4 x5 I0_j28 M0_j28 y28_6 = some (.inr R)) : Eqo fwI_X11_best R.2.1 I0_j28 ∧ Eqo fwM_X11_best R.2.2 M0_j28 := by
  unfold fX11_best_J28 at h
  have a1 := fr_fX11_best_J29 h
  exact ⟨a1.1.tr (by decide) (Eqo.refl fwI_X11_best I0_j28), a1.2.tr (by decide) (Eqo.refl fwM_X11_best M0_j28)⟩
theorem fr_fX11_best {N : Nat} {I0 : Nat → Int32} {M0 : Nat → Nat → Int32} {x1 : Int32} {x2 : Int32} {x3 : Int32} {x4 : Int32} {x5 : Int32} {R} (h : fX11_best N I0 M0 x1 x2 x3 x4 x5 = some (.inr R)) : Eqo fwI_X11_best R.2.1 I0 ∧ Eqo fwM_X11_best R.2.2 M0 := by
  unfold fX11_best at h
  obtain ⟨r10, -, h⟩ := wb_xr h
  obtain ⟨r11, -, h⟩ := wb_b h
  rcases fr_i h with h | h
  · have a1 := fr_fX11_best_J28 h
    exact ⟨a1.1.tr (by decide) (Eqo.refl fwI_X11_best I0), a1.2.tr (by decide) (Eqo.refl fwM_X11_best M0)⟩
  · obtain ⟨r12, -, h⟩ := wb_b h
    rcases fr_i h with h | h
    · have a2 := fr_fX11_best_J28 h
      exact ⟨a2.1.tr (by decide) (Eqo.refl fwI_X11_best I0), a2.2.tr (by decide) (Eqo.refl fwM_X11_best M0)⟩
    · have a3 := fr_fX11_best_J29 h
      exact ⟨a3.1.tr (by decide) (Eqo.refl fwI_X11_best I0), a3.2.tr (by decide) (Eqo.refl fwM_X11_best M0)⟩
abbrev fwI_X11_whose : List Nat := [20, 21, 22, 23, 24, 25, 26]
abbrev fwM_X11_whose : List Nat := [17]
theorem fr_fX11_whose_J121 {N : Nat} {x1 : Int32} {x2 : Int32} {x3 : Int32} {x4 : Int32} {x5 : Int32} {y29_6 : Int32} {g55 : (Nat → Int32) → (Nat → Nat → Int32) → Int32 → Int32 → Int32 → Int32 → Option (Int32 × (Nat → Int32) × (Nat → Nat → Int32))} {I0_j121 : Nat → Int32} {M0_j121 : Nat → Nat → Int32} {y121_7 : Int32} {y121_8 : Int32} {y121_9 : Int32} {y121_10 : Int32} (hg55 : ∀ q0 q1 q2 q3 q4 q5 R, g55 q0 q1 q2 q3 q4 q5 = some R → Eqo fwI_X11_whose R.2.1 q0 ∧ Eqo fwM_X11_whose R.2.2 q1) {R} (h : fX11_whose_J121 N x1 x2 x3 x4 x5 y29_6 g55 I0_j121 M0_j121 y121_7 y121_8 y121_9 y121_10 = some R) : Eqo fwI_X11_whose R.2.1 I0_j121 ∧ Eqo fwM_X11_whose R.2.2 M0_j121 := by
  unfold fX11_whose_J121 at h
  rcases fr_i h with h | h
  · obtain ⟨v5, -, h⟩ := wb_v h
    obtain ⟨v6, -, h⟩ := wb_v h
    have a1 := hg55 _ _ _ _ _ _ _ h
    exact ⟨a1.1.tr (by decide) (Eqo.refl fwI_X11_whose I0_j121), a1.2.tr (by decide) (Eqo.refl fwM_X11_whose M0_j121)⟩
  · obtain ⟨v4, -, h⟩ := wb_v h
    have a2 := hg55 _ _ _ _ _ _ _ h
    exact ⟨a2.1.tr (by decide) (Eqo.refl fwI_X11_whose I0_j121), a2.2.tr (by decide) (Eqo.refl fwM_X11_whose M0_j121)⟩
theorem fr_fX11_whose_L55 {N : Nat} {x1 : Int32} {x2 : Int32} {x3 : Int32} {x4 : Int32} {x5 : Int32} {y29_6 : Int32} : ∀ fu I0_l55 M0_l55 y55_7 y55_8 y55_9 y55_10 R, fX11_whose_L55 N x1 x2 x3 x4 x5 y29_6 fu I0_l55 M0_l55 y55_7 y55_8 y55_9 y55_10 = some R → Eqo fwI_X11_whose R.2.1 I0_l55 ∧ Eqo fwM_X11_whose R.2.2 M0_l55 := by
  intro fu
  induction fu with
  | zero => intro I0_l55 M0_l55 y55_7 y55_8 y55_9 y55_10 R h; cases (show none = some R from h)
  | succ fu ih =>
    intro I0_l55 M0_l55 y55_7 y55_8 y55_9 y55_10 R h
    rw [fX11_whose_L55.eq_2] at h
    rcases fr_i h with h | h
    · rcases fr_i h with h | h
      · have h := Option.some.inj h
        subst h
        exact ⟨(Eqo.refl fwI_X11_whose I0_l55), (Eqo.refl fwM_X11_whose M0_l55)⟩
      · rcases fr_i h with h | h
        · have h := Option.some.inj h
          subst h
          exact ⟨(Eqo.refl fwI_X11_whose I0_l55), (Eqo.refl fwM_X11_whose M0_l55)⟩
        · have h := Option.some.inj h
          subst h
          exact ⟨(Eqo.refl fwI_X11_whose I0_l55), (Eqo.refl fwM_X11_whose M0_l55)⟩
    · obtain ⟨r7, -, h⟩ := wb_b h
      obtain ⟨I0_8, e_I0_8, h⟩ := wb_v h
      have f_I0_8 := Eqo.eq e_I0_8 (Eqo.i (by decide) (Eqo.refl fwI_X11_whose I0_l55))
      obtain ⟨M0_9, e_M0_9, h⟩ := wb_v h
      have f_M0_9 := Eqo.eq e_M0_9 (Eqo.i (by decide) (Eqo.refl fwM_X11_whose M0_l55))
      obtain ⟨r10, -, h⟩ := wb_b h
      obtain ⟨I0_11, e_I0_11, h⟩ := wb_v h
      have f_I0_11 := Eqo.eq e_I0_11 (Eqo.i (by decide) f_I0_8)
      obtain ⟨M0_12, e_M0_12, h⟩ := wb_v h
      have f_M0_12 := Eqo.eq e_M0_12 (Eqo.i (by decide) f_M0_9)
      rcases fr_i h with h | h
      · have c103 : ∀ q0 q1 q2 q3 q4 q5 R, (fX11_whose_L55 N x1 x2 x3 x4 x5 y29_6 fu q0 q1 q2 q3 q4 q5) = some R → Eqo fwI_X11_whose R.2.1 q0 ∧ Eqo fwM_X11_whose R.2.2 q1 := by
            intro q0 q1 q2 q3 q4 q5 R h
            have a102 := ih _ _ _ _ _ _ _ h
            exact ⟨a102.1.tr (by decide) (Eqo.refl fwI_X11_whose q0), a102.2.tr (by decide) (Eqo.refl fwM_X11_whose q1)⟩
        have a1 := fr_fX11_whose_J121 c103 h
        exact ⟨a1.1.tr (by decide) f_I0_11, a1.2.tr (by decide) f_M0_12⟩
      · obtain ⟨v13, -, h⟩ := wb_v h
        have c206 : ∀ q0 q1 q2 q3 q4 q5 R, (fX11_whose_L55 N x1 x2 x3 x4 x5 y29_6 fu q0 q1 q2 q3 q4 q5) = some R → Eqo fwI_X11_whose R.2.1 q0 ∧ Eqo fwM_X11_whose R.2.2 q1 := by
            intro q0 q1 q2 q3 q4 q5 R h
            have a205 := ih _ _ _ _ _ _ _ h
            exact ⟨a205.1.tr (by decide) (Eqo.refl fwI_X11_whose q0), a205.2.tr (by decide) (Eqo.refl fwM_X11_whose q1)⟩
        have a104 := fr_fX11_whose_J121 c206 h
        exact ⟨a104.1.tr (by decide) f_I0_11, a104.2.tr (by decide) f_M0_12⟩
theorem fr_fX11_whose_J29 {N : Nat} {x1 : Int32} {x2 : Int32} {x3 : Int32} {x4 : Int32} {x5 : Int32} {I0_j29 : Nat → Int32} {M0_j29 : Nat → Nat → Int32} {y29_6 : Int32} {z29_0 : Int32} {R} (h : fX11_whose_J29 N x1 x2 x3 x4 x5 I0_j29 M0_j29 y29_6 z29_0 = some (.inr R)) : Eqo fwI_X11_whose R.2.1 I0_j29 ∧ Eqo fwM_X11_whose R.2.2 M0_j29 := by
  unfold fX11_whose_J29 at h
  obtain ⟨r1, -, h⟩ := wb_xr h
  obtain ⟨r2, -, h⟩ := wb_b h
  obtain ⟨r3, -, h⟩ := wb_xr h
  have h := wb_okr h
  have a1 := fr_fX11_whose_L55 _ _ _ _ _ _ _ _ h
  exact ⟨a1.1.tr (by decide) (Eqo.refl fwI_X11_whose I0_j29), a1.2.tr (by decide) (Eqo.refl fwM_X11_whose M0_j29)⟩
theorem fr_fX11_whose_J28 {N : Nat} {x1 : Int32} {x2 : Int32} {x3 : Int32} {x4 : Int32} {x5 : Int32} {I0_j28 : Nat → Int32} {M0_j28 : Nat → Nat → Int32} {y28_6 : Int32} {R} (h : fX11_whose_J28 N x1 x2 x3 x4 x5 I0_j28 M0_j28 y28_6 = some (.inr R)) : Eqo fwI_X11_whose R.2.1 I0_j28 ∧ Eqo fwM_X11_whose R.2.2 M0_j28 := by
  unfold fX11_whose_J28 at h
  have a1 := fr_fX11_whose_J29 h
  exact ⟨a1.1.tr (by decide) (Eqo.refl fwI_X11_whose I0_j28), a1.2.tr (by decide) (Eqo.refl fwM_X11_whose M0_j28)⟩
theorem fr_fX11_whose {N : Nat} {I0 : Nat → Int32} {M0 : Nat → Nat → Int32} {x1 : Int32} {x2 : Int32} {x3 : Int32} {x4 : Int32} {x5 : Int32} {R} (h : fX11_whose N I0 M0 x1 x2 x3 x4 x5 = some (.inr R)) : Eqo fwI_X11_whose R.2.1 I0 ∧ Eqo fwM_X11_whose R.2.2 M0 := by
  unfold fX11_whose at h
  obtain ⟨r14, -, h⟩ := wb_xr h
  obtain ⟨r15, -, h⟩ := wb_b h
  rcases fr_i h with h | h
  · have a1 := fr_fX11_whose_J28 h
    exact ⟨a1.1.tr (by decide) (Eqo.refl fwI_X11_whose I0), a1.2.tr (by decide) (Eqo.refl fwM_X11_whose M0)⟩
  · obtain ⟨r16, -, h⟩ := wb_b h
    rcases fr_i h with h | h
    · have a2 := fr_fX11_whose_J28 h
      exact ⟨a2.1.tr (by decide) (Eqo.refl fwI_X11_whose I0), a2.2.tr (by decide) (Eqo.refl fwM_X11_whose M0)⟩
    · have a3 := fr_fX11_whose_J29 h
      exact ⟨a3.1.tr (by decide) (Eqo.refl fwI_X11_whose I0), a3.2.tr (by decide) (Eqo.refl fwM_X11_whose M0)⟩
abbrev fwI_X11_seek : List Nat := [27, 28, 29, 30, 31, 32, 33]
abbrev fwM_X11_seek : List Nat := [18]
theorem fr_fX11_seek_J29 {N : Nat} {x1 : Int32} {x2 : Int32} {x3 : Int32} {x4 : Int32} {I0_j29 : Nat → Int32} {M0_j29 : Nat → Nat → Int32} {y29_5 : Int32} {z29_0 : Int32} {R} (h : fX11_seek_J29 N x1 x2 x3 x4 I0_j29 M0_j29 y29_5 z29_0 = some (.inr R)) : Eqo fwI_X11_seek R.1 I0_j29 ∧ Eqo fwM_X11_seek R.2 M0_j29 := by
  unfold fX11_seek_J29 at h
  obtain ⟨r1, -, h⟩ := wb_xr h
  have h := wb_okr h
  obtain ⟨r2, -, h⟩ := wb_b h
  obtain ⟨I0_3, e_I0_3, h⟩ := wb_v h
  have f_I0_3 := Eqo.eq e_I0_3 (Eqo.i (by decide) (Eqo.refl fwI_X11_seek I0_j29))
  obtain ⟨M0_4, e_M0_4, h⟩ := wb_v h
  have f_M0_4 := Eqo.eq e_M0_4 (Eqo.i (by decide) (Eqo.refl fwM_X11_seek M0_j29))
  have h := Option.some.inj h
  subst h
  exact ⟨f_I0_3, f_M0_4⟩
theorem fr_fX11_seek_J28 {N : Nat} {x1 : Int32} {x2 : Int32} {x3 : Int32} {x4 : Int32} {I0_j28 : Nat → Int32} {M0_j28 : Nat → Nat → Int32} {y28_5 : Int32} {R} (h : fX11_seek_J28 N x1 x2 x3 x4 I0_j28 M0_j28 y28_5 = some (.inr R)) : Eqo fwI_X11_seek R.1 I0_j28 ∧ Eqo fwM_X11_seek R.2 M0_j28 := by
  unfold fX11_seek_J28 at h
  have a1 := fr_fX11_seek_J29 h
  exact ⟨a1.1.tr (by decide) (Eqo.refl fwI_X11_seek I0_j28), a1.2.tr (by decide) (Eqo.refl fwM_X11_seek M0_j28)⟩
theorem fr_fX11_seek {N : Nat} {I0 : Nat → Int32} {M0 : Nat → Nat → Int32} {x1 : Int32} {x2 : Int32} {x3 : Int32} {x4 : Int32} {R} (h : fX11_seek N I0 M0 x1 x2 x3 x4 = some (.inr R)) : Eqo fwI_X11_seek R.1 I0 ∧ Eqo fwM_X11_seek R.2 M0 := by
  unfold fX11_seek at h
  obtain ⟨r5, -, h⟩ := wb_xr h
  obtain ⟨r6, -, h⟩ := wb_b h
  rcases fr_i h with h | h
  · have a1 := fr_fX11_seek_J28 h
    exact ⟨a1.1.tr (by decide) (Eqo.refl fwI_X11_seek I0), a1.2.tr (by decide) (Eqo.refl fwM_X11_seek M0)⟩
  · obtain ⟨r7, -, h⟩ := wb_b h
    rcases fr_i h with h | h
    · have a2 := fr_fX11_seek_J28 h
      exact ⟨a2.1.tr (by decide) (Eqo.refl fwI_X11_seek I0), a2.2.tr (by decide) (Eqo.refl fwM_X11_seek M0)⟩
    · have a3 := fr_fX11_seek_J29 h
      exact ⟨a3.1.tr (by decide) (Eqo.refl fwI_X11_seek I0), a3.2.tr (by decide) (Eqo.refl fwM_X11_seek M0)⟩
abbrev fwI_X11_on : List Nat := [27, 28, 29, 30, 31, 32, 33]
abbrev fwM_X11_on : List Nat := [18]
theorem fr_fX11_on {N : Nat} {I0 : Nat → Int32} {M0 : Nat → Nat → Int32} {x1 : Int32} {R} (h : fX11_on N I0 M0 x1 = some (.inr R)) : Eqo fwI_X11_on R.2.1 I0 ∧ Eqo fwM_X11_on R.2.2 M0 := by
  unfold fX11_on at h
  obtain ⟨r1, -, h⟩ := wb_xr h
  obtain ⟨r2, -, h⟩ := wb_b h
  obtain ⟨r3, -, h⟩ := wb_xr h
  have h := wb_okr h
  obtain ⟨r4, -, h⟩ := wb_b h
  obtain ⟨I0_5, e_I0_5, h⟩ := wb_v h
  have f_I0_5 := Eqo.eq e_I0_5 (Eqo.i (by decide) (Eqo.refl fwI_X11_on I0))
  obtain ⟨M0_6, e_M0_6, h⟩ := wb_v h
  have f_M0_6 := Eqo.eq e_M0_6 (Eqo.i (by decide) (Eqo.refl fwM_X11_on M0))
  have h := Option.some.inj h
  subst h
  exact ⟨f_I0_5, f_M0_6⟩
abbrev fwI_X11_image : List Nat := [34, 35, 36, 37, 38, 39, 40]
abbrev fwM_X11_image : List Nat := [19]
theorem fr_fX11_image {N : Nat} {I0 : Nat → Int32} {M0 : Nat → Nat → Int32} {R} (h : fX11_image N I0 M0 = some R) : Eqo fwI_X11_image R.2.1 I0 ∧ Eqo fwM_X11_image R.2.2 M0 := by
  unfold fX11_image at h
  rcases fr_i h with h | h
  · have h := Option.some.inj h
    subst h
    exact ⟨(Eqo.refl fwI_X11_image I0), (Eqo.refl fwM_X11_image M0)⟩
  · obtain ⟨r1, -, h⟩ := wb_b h
    obtain ⟨I0_2, e_I0_2, h⟩ := wb_v h
    have f_I0_2 := Eqo.eq e_I0_2 (Eqo.i (by decide) (Eqo.refl fwI_X11_image I0))
    obtain ⟨M0_3, e_M0_3, h⟩ := wb_v h
    have f_M0_3 := Eqo.eq e_M0_3 (Eqo.i (by decide) (Eqo.refl fwM_X11_image M0))
    have h := Option.some.inj h
    subst h
    exact ⟨f_I0_2, f_M0_3⟩
abbrev fwI_X11_restore : List Nat := [27, 28, 29, 30, 31, 32, 33]
abbrev fwM_X11_restore : List Nat := [18]
theorem fr_fX11_restore {N : Nat} {I0 : Nat → Int32} {M0 : Nat → Nat → Int32} {R} (h : fX11_restore N I0 M0 = some R) : Eqo fwI_X11_restore R.2.1 I0 ∧ Eqo fwM_X11_restore R.2.2 M0 := by
  unfold fX11_restore at h
  rcases fr_i h with h | h
  · have h := Option.some.inj h
    subst h
    exact ⟨(Eqo.refl fwI_X11_restore I0), (Eqo.refl fwM_X11_restore M0)⟩
  · obtain ⟨r1, -, h⟩ := wb_b h
    obtain ⟨I0_2, e_I0_2, h⟩ := wb_v h
    have f_I0_2 := Eqo.eq e_I0_2 (Eqo.i (by decide) (Eqo.refl fwI_X11_restore I0))
    obtain ⟨M0_3, e_M0_3, h⟩ := wb_v h
    have f_M0_3 := Eqo.eq e_M0_3 (Eqo.i (by decide) (Eqo.refl fwM_X11_restore M0))
    have h := Option.some.inj h
    subst h
    exact ⟨f_I0_2, f_M0_3⟩
abbrev fwI_X11_errors : List Nat := []
abbrev fwM_X11_errors : List Nat := [15]
theorem fr_fX11_errors_J30 {N : Nat} {x1 : Int32} {x2 : Int32} {x3 : Int32} {x4 : Int32} {I0_j30 : Nat → Int32} {M0_j30 : Nat → Nat → Int32} {y30_5 : Int32} {z30_0 : Int32} {R} (h : fX11_errors_J30 N x1 x2 x3 x4 I0_j30 M0_j30 y30_5 z30_0 = some (.inr R)) : Eqo fwI_X11_errors R.2.1 I0_j30 ∧ Eqo fwM_X11_errors R.2.2 M0_j30 := by
  unfold fX11_errors_J30 at h
  obtain ⟨r1, -, h⟩ := wb_xr h
  have h := wb_okr h
  obtain ⟨r2, -, h⟩ := wb_b h
  obtain ⟨I0_3, e_I0_3, h⟩ := wb_v h
  have f_I0_3 := Eqo.eq e_I0_3 (Eqo.i (by decide) (Eqo.refl fwI_X11_errors I0_j30))
  obtain ⟨M0_4, e_M0_4, h⟩ := wb_v h
  have f_M0_4 := Eqo.eq e_M0_4 (Eqo.i (by decide) (Eqo.refl fwM_X11_errors M0_j30))
  rcases fr_i h with h | h
  · obtain ⟨r10, -, h⟩ := wb_b h
    have h := Option.some.inj h
    subst h
    exact ⟨f_I0_3, f_M0_4⟩
  · rcases fr_i h with h | h
    · obtain ⟨r9b, -, h⟩ := wb_b h
      have h := Option.some.inj h
      subst h
      exact ⟨f_I0_3, f_M0_4⟩
    · obtain ⟨v5, -, h⟩ := wb_v h
      rcases fr_i h with h | h
      · rcases fr_i h with h | h
        · obtain ⟨r6, -, h⟩ := wb_b h
          have h := Option.some.inj h
          subst h
          exact ⟨f_I0_3, f_M0_4⟩
        · obtain ⟨r7, -, h⟩ := wb_b h
          have h := Option.some.inj h
          subst h
          exact ⟨f_I0_3, f_M0_4⟩
      · obtain ⟨r8, -, h⟩ := wb_b h
        have h := Option.some.inj h
        subst h
        exact ⟨f_I0_3, f_M0_4⟩
theorem fr_fX11_errors_J29 {N : Nat} {x1 : Int32} {x2 : Int32} {x3 : Int32} {x4 : Int32} {I0_j29 : Nat → Int32} {M0_j29 : Nat → Nat → Int32} {y29_5 : Int32} {R} (h : fX11_errors_J29 N x1 x2 x3 x4 I0_j29 M0_j29 y29_5 = some (.inr R)) : Eqo fwI_X11_errors R.2.1 I0_j29 ∧ Eqo fwM_X11_errors R.2.2 M0_j29 := by
  unfold fX11_errors_J29 at h
  have a1 := fr_fX11_errors_J30 h
  exact ⟨a1.1.tr (by decide) (Eqo.refl fwI_X11_errors I0_j29), a1.2.tr (by decide) (Eqo.refl fwM_X11_errors M0_j29)⟩
theorem fr_fX11_errors {N : Nat} {I0 : Nat → Int32} {M0 : Nat → Nat → Int32} {x1 : Int32} {x2 : Int32} {x3 : Int32} {x4 : Int32} {R} (h : fX11_errors N I0 M0 x1 x2 x3 x4 = some (.inr R)) : Eqo fwI_X11_errors R.2.1 I0 ∧ Eqo fwM_X11_errors R.2.2 M0 := by
  unfold fX11_errors at h
  obtain ⟨r11, -, h⟩ := wb_xr h
  obtain ⟨r12, -, h⟩ := wb_b h
  rcases fr_i h with h | h
  · have a1 := fr_fX11_errors_J29 h
    exact ⟨a1.1.tr (by decide) (Eqo.refl fwI_X11_errors I0), a1.2.tr (by decide) (Eqo.refl fwM_X11_errors M0)⟩
  · obtain ⟨r13, -, h⟩ := wb_b h
    rcases fr_i h with h | h
    · have a2 := fr_fX11_errors_J29 h
      exact ⟨a2.1.tr (by decide) (Eqo.refl fwI_X11_errors I0), a2.2.tr (by decide) (Eqo.refl fwM_X11_errors M0)⟩
    · have a3 := fr_fX11_errors_J30 h
      exact ⟨a3.1.tr (by decide) (Eqo.refl fwI_X11_errors I0), a3.2.tr (by decide) (Eqo.refl fwM_X11_errors M0)⟩
abbrev fwI_X11_leaf : List Nat := []
abbrev fwM_X11_leaf : List Nat := [23, 24, 25, 26]
theorem fr_fX11_leaf_J21 {N : Nat} {x1 : Int32} {x2 : Int32} {I0_j21 : Nat → Int32} {M0_j21 : Nat → Nat → Int32} {R} (h : fX11_leaf_J21 N x1 x2 I0_j21 M0_j21 = some (.inr R)) : Eqo fwI_X11_leaf R.2.1 I0_j21 ∧ Eqo fwM_X11_leaf R.2.2 M0_j21 := by
  unfold fX11_leaf_J21 at h
  obtain ⟨r1, -, h⟩ := wb_xr h
  have h := wb_okr h
  obtain ⟨r2, -, h⟩ := wb_b h
  obtain ⟨I0_3, e_I0_3, h⟩ := wb_v h
  have f_I0_3 := Eqo.eq e_I0_3 (Eqo.i (by decide) (Eqo.refl fwI_X11_leaf I0_j21))
  obtain ⟨M0_4, e_M0_4, h⟩ := wb_v h
  have f_M0_4 := Eqo.eq e_M0_4 (Eqo.i (by decide) (Eqo.refl fwM_X11_leaf M0_j21))
  have h := Option.some.inj h
  subst h
  exact ⟨f_I0_3, f_M0_4⟩
theorem fr_fX11_leaf {N : Nat} {I0 : Nat → Int32} {M0 : Nat → Nat → Int32} {x1 : Int32} {x2 : Int32} {R} (h : fX11_leaf N I0 M0 x1 x2 = some (.inr R)) : Eqo fwI_X11_leaf R.2.1 I0 ∧ Eqo fwM_X11_leaf R.2.2 M0 := by
  unfold fX11_leaf at h
  obtain ⟨r5, -, h⟩ := wb_b h
  rcases fr_i h with h | h
  · have a1 := fr_fX11_leaf_J21 h
    exact ⟨a1.1.tr (by decide) (Eqo.refl fwI_X11_leaf I0), a1.2.tr (by decide) (Eqo.refl fwM_X11_leaf M0)⟩
  · obtain ⟨r6, -, h⟩ := wb_b h
    rcases fr_i h with h | h
    · have a2 := fr_fX11_leaf_J21 h
      exact ⟨a2.1.tr (by decide) (Eqo.refl fwI_X11_leaf I0), a2.2.tr (by decide) (Eqo.refl fwM_X11_leaf M0)⟩
    · obtain ⟨r7, -, h⟩ := wb_xr h
      have h := wb_okr h
      obtain ⟨r8, -, h⟩ := wb_b h
      obtain ⟨I0_9, e_I0_9, h⟩ := wb_v h
      have f_I0_9 := Eqo.eq e_I0_9 (Eqo.i (by decide) (Eqo.refl fwI_X11_leaf I0))
      obtain ⟨M0_10, e_M0_10, h⟩ := wb_v h
      have f_M0_10 := Eqo.eq e_M0_10 (Eqo.i (by decide) (Eqo.refl fwM_X11_leaf M0))
      have h := Option.some.inj h
      subst h
      exact ⟨f_I0_9, f_M0_10⟩
abbrev fwI_X11_order : List Nat := []
abbrev fwM_X11_order : List Nat := [23, 24, 25, 26]
theorem fr_fX11_order_J28 {N : Nat} {x1 : Int32} {x2 : Int32} {x3 : Int32} {I0_j28 : Nat → Int32} {M0_j28 : Nat → Nat → Int32} {z28_0 : Int32} {R} (h : fX11_order_J28 N x1 x2 x3 I0_j28 M0_j28 z28_0 = some (.inr R)) : Eqo fwI_X11_order R.2.1 I0_j28 ∧ Eqo fwM_X11_order R.2.2 M0_j28 := by
  unfold fX11_order_J28 at h
  obtain ⟨r1, -, h⟩ := wb_xr h
  have h := wb_okr h
  rcases fr_i h with h | h
  · obtain ⟨r5, -, h⟩ := wb_b h
    obtain ⟨I0_6, e_I0_6, h⟩ := wb_v h
    have f_I0_6 := Eqo.eq e_I0_6 (Eqo.i (by decide) (Eqo.refl fwI_X11_order I0_j28))
    obtain ⟨M0_7, e_M0_7, h⟩ := wb_v h
    have f_M0_7 := Eqo.eq e_M0_7 (Eqo.i (by decide) (Eqo.refl fwM_X11_order M0_j28))
    have h := Option.some.inj h
    subst h
    exact ⟨f_I0_6, f_M0_7⟩
  · obtain ⟨r2, -, h⟩ := wb_b h
    obtain ⟨I0_3, e_I0_3, h⟩ := wb_v h
    have f_I0_3 := Eqo.eq e_I0_3 (Eqo.i (by decide) (Eqo.refl fwI_X11_order I0_j28))
    obtain ⟨M0_4, e_M0_4, h⟩ := wb_v h
    have f_M0_4 := Eqo.eq e_M0_4 (Eqo.i (by decide) (Eqo.refl fwM_X11_order M0_j28))
    have h := Option.some.inj h
    subst h
    exact ⟨f_I0_3, f_M0_4⟩
theorem fr_fX11_order_J27 {N : Nat} {x1 : Int32} {x2 : Int32} {x3 : Int32} {I0_j27 : Nat → Int32} {M0_j27 : Nat → Nat → Int32} {R} (h : fX11_order_J27 N x1 x2 x3 I0_j27 M0_j27 = some (.inr R)) : Eqo fwI_X11_order R.2.1 I0_j27 ∧ Eqo fwM_X11_order R.2.2 M0_j27 := by
  unfold fX11_order_J27 at h
  have a1 := fr_fX11_order_J28 h
  exact ⟨a1.1.tr (by decide) (Eqo.refl fwI_X11_order I0_j27), a1.2.tr (by decide) (Eqo.refl fwM_X11_order M0_j27)⟩
theorem fr_fX11_order {N : Nat} {I0 : Nat → Int32} {M0 : Nat → Nat → Int32} {x1 : Int32} {x2 : Int32} {x3 : Int32} {R} (h : fX11_order N I0 M0 x1 x2 x3 = some (.inr R)) : Eqo fwI_X11_order R.2.1 I0 ∧ Eqo fwM_X11_order R.2.2 M0 := by
  unfold fX11_order at h
  obtain ⟨r8, -, h⟩ := wb_b h
  rcases fr_i h with h | h
  · have a1 := fr_fX11_order_J27 h
    exact ⟨a1.1.tr (by decide) (Eqo.refl fwI_X11_order I0), a1.2.tr (by decide) (Eqo.refl fwM_X11_order M0)⟩
  · obtain ⟨r9b, -, h⟩ := wb_b h
    rcases fr_i h with h | h
    · have a2 := fr_fX11_order_J27 h
      exact ⟨a2.1.tr (by decide) (Eqo.refl fwI_X11_order I0), a2.2.tr (by decide) (Eqo.refl fwM_X11_order M0)⟩
    · obtain ⟨r10, -, h⟩ := wb_b h
      rcases fr_i h with h | h
      · have a3 := fr_fX11_order_J27 h
        exact ⟨a3.1.tr (by decide) (Eqo.refl fwI_X11_order I0), a3.2.tr (by decide) (Eqo.refl fwM_X11_order M0)⟩
      · have a4 := fr_fX11_order_J28 h
        exact ⟨a4.1.tr (by decide) (Eqo.refl fwI_X11_order I0), a4.2.tr (by decide) (Eqo.refl fwM_X11_order M0)⟩
abbrev fwI_X11_births : List Nat := []
abbrev fwM_X11_births : List Nat := [27]
theorem fr_fX11_births_J27 {N : Nat} {x1 : Int32} {x2 : Int32} {I0_j27 : Nat → Int32} {M0_j27 : Nat → Nat → Int32} {z27_0 : Int32} {R} (h : fX11_births_J27 N x1 x2 I0_j27 M0_j27 z27_0 = some (.inr R)) : Eqo fwI_X11_births R.2.1 I0_j27 ∧ Eqo fwM_X11_births R.2.2 M0_j27 := by
  unfold fX11_births_J27 at h
  obtain ⟨r1, -, h⟩ := wb_xr h
  have h := wb_okr h
  obtain ⟨r2, -, h⟩ := wb_b h
  obtain ⟨I0_3, e_I0_3, h⟩ := wb_v h
  have f_I0_3 := Eqo.eq e_I0_3 (Eqo.i (by decide) (Eqo.refl fwI_X11_births I0_j27))
  obtain ⟨M0_4, e_M0_4, h⟩ := wb_v h
  have f_M0_4 := Eqo.eq e_M0_4 (Eqo.i (by decide) (Eqo.refl fwM_X11_births M0_j27))
  rcases fr_i h with h | h
  · obtain ⟨r6, -, h⟩ := wb_b h
    have h := Option.some.inj h
    subst h
    exact ⟨f_I0_3, f_M0_4⟩
  · obtain ⟨r5, -, h⟩ := wb_b h
    have h := Option.some.inj h
    subst h
    exact ⟨f_I0_3, f_M0_4⟩
theorem fr_fX11_births_J26 {N : Nat} {x1 : Int32} {x2 : Int32} {I0_j26 : Nat → Int32} {M0_j26 : Nat → Nat → Int32} {R} (h : fX11_births_J26 N x1 x2 I0_j26 M0_j26 = some (.inr R)) : Eqo fwI_X11_births R.2.1 I0_j26 ∧ Eqo fwM_X11_births R.2.2 M0_j26 := by
  unfold fX11_births_J26 at h
  have a1 := fr_fX11_births_J27 h
  exact ⟨a1.1.tr (by decide) (Eqo.refl fwI_X11_births I0_j26), a1.2.tr (by decide) (Eqo.refl fwM_X11_births M0_j26)⟩
theorem fr_fX11_births_J12 {N : Nat} {x1 : Int32} {x2 : Int32} {I0_j12 : Nat → Int32} {M0_j12 : Nat → Nat → Int32} {R} (h : fX11_births_J12 N x1 x2 I0_j12 M0_j12 = some (.inr R)) : Eqo fwI_X11_births R.2.1 I0_j12 ∧ Eqo fwM_X11_births R.2.2 M0_j12 := by
  unfold fX11_births_J12 at h
  obtain ⟨r7, -, h⟩ := wb_b h
  rcases fr_i h with h | h
  · have a1 := fr_fX11_births_J26 h
    exact ⟨a1.1.tr (by decide) (Eqo.refl fwI_X11_births I0_j12), a1.2.tr (by decide) (Eqo.refl fwM_X11_births M0_j12)⟩
  · have a2 := fr_fX11_births_J27 h
    exact ⟨a2.1.tr (by decide) (Eqo.refl fwI_X11_births I0_j12), a2.2.tr (by decide) (Eqo.refl fwM_X11_births M0_j12)⟩
theorem fr_fX11_births {N : Nat} {I0 : Nat → Int32} {M0 : Nat → Nat → Int32} {x1 : Int32} {x2 : Int32} {R} (h : fX11_births N I0 M0 x1 x2 = some (.inr R)) : Eqo fwI_X11_births R.2.1 I0 ∧ Eqo fwM_X11_births R.2.2 M0 := by
  unfold fX11_births at h
  rcases fr_i h with h | h
  · have a1 := fr_fX11_births_J12 h
    exact ⟨a1.1.tr (by decide) (Eqo.refl fwI_X11_births I0), a1.2.tr (by decide) (Eqo.refl fwM_X11_births M0)⟩
  · obtain ⟨r8, -, h⟩ := wb_b h
    rcases fr_i h with h | h
    · have a2 := fr_fX11_births_J26 h
      exact ⟨a2.1.tr (by decide) (Eqo.refl fwI_X11_births I0), a2.2.tr (by decide) (Eqo.refl fwM_X11_births M0)⟩
    · have a3 := fr_fX11_births_J12 h
      exact ⟨a3.1.tr (by decide) (Eqo.refl fwI_X11_births I0), a3.2.tr (by decide) (Eqo.refl fwM_X11_births M0)⟩
abbrev fwI_X11_tree : List Nat := [41, 42]
abbrev fwM_X11_tree : List Nat := [20, 21, 22]
theorem fr_fX11_tree {N : Nat} {I0 : Nat → Int32} {M0 : Nat → Nat → Int32} {R} (h : fX11_tree N I0 M0 = some R) : Eqo fwI_X11_tree R.2.1 I0 ∧ Eqo fwM_X11_tree R.2.2 M0 := by
  unfold fX11_tree at h
  obtain ⟨r1, -, h⟩ := wb_b h
  obtain ⟨I0_2, e_I0_2, h⟩ := wb_v h
  have f_I0_2 := Eqo.eq e_I0_2 (Eqo.i (by decide) (Eqo.refl fwI_X11_tree I0))
  obtain ⟨M0_3, e_M0_3, h⟩ := wb_v h
  have f_M0_3 := Eqo.eq e_M0_3 (Eqo.i (by decide) (Eqo.refl fwM_X11_tree M0))
  rcases fr_i h with h | h
  · have h := Option.some.inj h
    subst h
    exact ⟨f_I0_2, f_M0_3⟩
  · obtain ⟨r4, -, h⟩ := wb_b h
    obtain ⟨I0_5, e_I0_5, h⟩ := wb_v h
    have f_I0_5 := Eqo.eq e_I0_5 (Eqo.i (by decide) f_I0_2)
    obtain ⟨M0_6, e_M0_6, h⟩ := wb_v h
    have f_M0_6 := Eqo.eq e_M0_6 (Eqo.i (by decide) f_M0_3)
    obtain ⟨r7, -, h⟩ := wb_b h
    obtain ⟨I0_8, e_I0_8, h⟩ := wb_v h
    have f_I0_8 := Eqo.eq e_I0_8 (Eqo.i (by decide) f_I0_5)
    obtain ⟨M0_9, e_M0_9, h⟩ := wb_v h
    have f_M0_9 := Eqo.eq e_M0_9 (Eqo.i (by decide) f_M0_6)
    have h := Option.some.inj h
    subst h
    exact ⟨f_I0_8, f_M0_9⟩
abbrev fwI_X11_life : List Nat := []
abbrev fwM_X11_life : List Nat := [28, 29, 30, 31, 32, 33]
theorem fr_fX11_life {N : Nat} {I0 : Nat → Int32} {M0 : Nat → Nat → Int32} {x1 : Int32} {x2 : Int32} {x3 : Int32} {R} (h : fX11_life N I0 M0 x1 x2 x3 = some (.inr R)) : Eqo fwI_X11_life R.2.1 I0 ∧ Eqo fwM_X11_life R.2.2 M0 := by
  unfold fX11_life at h
  obtain ⟨r1, -, h⟩ := wb_b h
  obtain ⟨r2, -, h⟩ := wb_xr h
  have h := wb_okr h
  obtain ⟨r3, -, h⟩ := wb_b h
  rcases fr_i h with h | h
  · have h := Option.some.inj h
    subst h
    exact ⟨(Eqo.refl fwI_X11_life I0), (Eqo.refl fwM_X11_life M0)⟩
  · obtain ⟨r4, -, h⟩ := wb_b h
    rcases fr_i h with h | h
    · have h := Option.some.inj h
      subst h
      exact ⟨(Eqo.refl fwI_X11_life I0), (Eqo.refl fwM_X11_life M0)⟩
    · obtain ⟨r5, -, h⟩ := wb_b h
      obtain ⟨I0_6, e_I0_6, h⟩ := wb_v h
      have f_I0_6 := Eqo.eq e_I0_6 (Eqo.i (by decide) (Eqo.refl fwI_X11_life I0))
      obtain ⟨M0_7, e_M0_7, h⟩ := wb_v h
      have f_M0_7 := Eqo.eq e_M0_7 (Eqo.i (by decide) (Eqo.refl fwM_X11_life M0))
      have h := Option.some.inj h
      subst h
      exact ⟨f_I0_6, f_M0_7⟩
abbrev fwI_X11_fate : List Nat := []
abbrev fwM_X11_fate : List Nat := [28, 29, 30, 31, 32, 33]
theorem fr_fX11_fate {N : Nat} {I0 : Nat → Int32} {M0 : Nat → Nat → Int32} {x1 : Int32} {x2 : Int32} {R} (h : fX11_fate N I0 M0 x1 x2 = some (.inr R)) : Eqo fwI_X11_fate R.2.1 I0 ∧ Eqo fwM_X11_fate R.2.2 M0 := by
  unfold fX11_fate at h
  obtain ⟨r1, -, h⟩ := wb_b h
  obtain ⟨r2, -, h⟩ := wb_xr h
  have h := wb_okr h
  obtain ⟨r3, -, h⟩ := wb_b h
  rcases fr_i h with h | h
  · have h := Option.some.inj h
    subst h
    exact ⟨(Eqo.refl fwI_X11_fate I0), (Eqo.refl fwM_X11_fate M0)⟩
  · obtain ⟨r4, -, h⟩ := wb_b h
    obtain ⟨I0_5, e_I0_5, h⟩ := wb_v h
    have f_I0_5 := Eqo.eq e_I0_5 (Eqo.i (by decide) (Eqo.refl fwI_X11_fate I0))
    obtain ⟨M0_6, e_M0_6, h⟩ := wb_v h
    have f_M0_6 := Eqo.eq e_M0_6 (Eqo.i (by decide) (Eqo.refl fwM_X11_fate M0))
    have h := Option.some.inj h
    subst h
    exact ⟨f_I0_5, f_M0_6⟩
abbrev fwI_X11_fates : List Nat := []
abbrev fwM_X11_fates : List Nat := [28, 29, 30, 31, 32, 33]
theorem fr_fX11_fates {N : Nat} {I0 : Nat → Int32} {M0 : Nat → Nat → Int32} {x1 : Int32} {R} (h : fX11_fates N I0 M0 x1 = some (.inr R)) : Eqo fwI_X11_fates R.2.1 I0 ∧ Eqo fwM_X11_fates R.2.2 M0 := by
  unfold fX11_fates at h
  obtain ⟨r1, -, h⟩ := wb_b h
  obtain ⟨r2, -, h⟩ := wb_xr h
  have h := wb_okr h
  rcases fr_i h with h | h
  · obtain ⟨r6, -, h⟩ := wb_b h
    obtain ⟨I0_7, e_I0_7, h⟩ := wb_v h
    have f_I0_7 := Eqo.eq e_I0_7 (Eqo.i (by decide) (Eqo.refl fwI_X11_fates I0))
    obtain ⟨M0_8, e_M0_8, h⟩ := wb_v h
    have f_M0_8 := Eqo.eq e_M0_8 (Eqo.i (by decide) (Eqo.refl fwM_X11_fates M0))
    have h := Option.some.inj h
    subst h
    exact ⟨f_I0_7, f_M0_8⟩
  · obtain ⟨r3, -, h⟩ := wb_b h
    obtain ⟨I0_4, e_I0_4, h⟩ := wb_v h
    have f_I0_4 := Eqo.eq e_I0_4 (Eqo.i (by decide) (Eqo.refl fwI_X11_fates I0))
    obtain ⟨M0_5, e_M0_5, h⟩ := wb_v h
    have f_M0_5 := Eqo.eq e_M0_5 (Eqo.i (by decide) (Eqo.refl fwM_X11_fates M0))
    have h := Option.some.inj h
    subst h
    exact ⟨f_I0_4, f_M0_5⟩
abbrev fwI_X11_hits : List Nat := []
abbrev fwM_X11_hits : List Nat := [28, 29, 30, 31, 32, 33]
theorem fr_fX11_hits_J24 {N : Nat} {x1 : Int32} {x2 : Int32} {I0_j24 : Nat → Int32} {M0_j24 : Nat → Nat → Int32} {z24_0 : Int32} {R} (h : fX11_hits_J24 N x1 x2 I0_j24 M0_j24 z24_0 = some (.inr R)) : Eqo fwI_X11_hits R.2.1 I0_j24 ∧ Eqo fwM_X11_hits R.2.2 M0_j24 := by
  unfold fX11_hits_J24 at h
  obtain ⟨r1, -, h⟩ := wb_xr h
  have h := wb_okr h
  rcases fr_i h with h | h
  · obtain ⟨r5, -, h⟩ := wb_b h
    obtain ⟨I0_6, e_I0_6, h⟩ := wb_v h
    have f_I0_6 := Eqo.eq e_I0_6 (Eqo.i (by decide) (Eqo.refl fwI_X11_hits I0_j24))
    obtain ⟨M0_7, e_M0_7, h⟩ := wb_v h
    have f_M0_7 := Eqo.eq e_M0_7 (Eqo.i (by decide) (Eqo.refl fwM_X11_hits M0_j24))
    have h := Option.some.inj h
    subst h
    exact ⟨f_I0_6, f_M0_7⟩
  · obtain ⟨r2, -, h⟩ := wb_b h
    obtain ⟨I0_3, e_I0_3, h⟩ := wb_v h
    have f_I0_3 := Eqo.eq e_I0_3 (Eqo.i (by decide) (Eqo.refl fwI_X11_hits I0_j24))
    obtain ⟨M0_4, e_M0_4, h⟩ := wb_v h
    have f_M0_4 := Eqo.eq e_M0_4 (Eqo.i (by decide) (Eqo.refl fwM_X11_hits M0_j24))
    have h := Option.some.inj h
    subst h
    exact ⟨f_I0_3, f_M0_4⟩
theorem fr_fX11_hits_J23 {N : Nat} {x1 : Int32} {x2 : Int32} {I0_j23 : Nat → Int32} {M0_j23 : Nat → Nat → Int32} {R} (h : fX11_hits_J23 N x1 x2 I0_j23 M0_j23 = some (.inr R)) : Eqo fwI_X11_hits R.2.1 I0_j23 ∧ Eqo fwM_X11_hits R.2.2 M0_j23 := by
  unfold fX11_hits_J23 at h
  have a1 := fr_fX11_hits_J24 h
  exact ⟨a1.1.tr (by decide) (Eqo.refl fwI_X11_hits I0_j23), a1.2.tr (by decide) (Eqo.refl fwM_X11_hits M0_j23)⟩
theorem fr_fX11_hits {N : Nat} {I0 : Nat → Int32} {M0 : Nat → Nat → Int32} {x1 : Int32} {x2 : Int32} {R} (h : fX11_hits N I0 M0 x1 x2 = some (.inr R)) : Eqo fwI_X11_hits R.2.1 I0 ∧ Eqo fwM_X11_hits R.2.2 M0 := by
  unfold fX11_hits at h
  obtain ⟨r8, -, h⟩ := wb_b h
  rcases fr_i h with h | h
  · have a1 := fr_fX11_hits_J23 h
    exact ⟨a1.1.tr (by decide) (Eqo.refl fwI_X11_hits I0), a1.2.tr (by decide) (Eqo.refl fwM_X11_hits M0)⟩
  · obtain ⟨r9b, -, h⟩ := wb_b h
    rcases fr_i h with h | h
    · have a2 := fr_fX11_hits_J23 h
      exact ⟨a2.1.tr (by decide) (Eqo.refl fwI_X11_hits I0), a2.2.tr (by decide) (Eqo.refl fwM_X11_hits M0)⟩
    · have a3 := fr_fX11_hits_J24 h
      exact ⟨a3.1.tr (by decide) (Eqo.refl fwI_X11_hits I0), a3.2.tr (by decide) (Eqo.refl fwM_X11_hits M0)⟩
abbrev fwI_X12_right : List Nat := [0]
abbrev fwM_X12_right : List Nat := []
theorem fr_fX12_right {N : Nat} {I0 : Nat → Int32} {L0 : Int64} {M0 : Nat → Nat → Int32} {x1 : Int32} {x2 : Int32} {R} (h : fX12_right N I0 L0 M0 x1 x2 = some R) : Eqo fwI_X12_right R.2.1 I0 ∧ Eqo fwM_X12_right R.2.2.2 M0 := by
  unfold fX12_right at h
  rcases fr_i h with h | h
  · rcases fr_i h with h | h
    · obtain ⟨I0_1, e_I0_1, h⟩ := wb_v h
      have f_I0_1 := Eqo.eq e_I0_1 (Eqo.u (by decide) (Eqo.refl fwI_X12_right I0))
      rcases fr_i h with h | h
      · have h := Option.some.inj h
        subst h
        exact ⟨f_I0_1, (Eqo.refl fwM_X12_right M0)⟩
      · have h := Option.some.inj h
        subst h
        exact ⟨f_I0_1, (Eqo.refl fwM_X12_right M0)⟩
    · rcases fr_i h with h | h
      · have h := Option.some.inj h
        subst h
        exact ⟨(Eqo.refl fwI_X12_right I0), (Eqo.refl fwM_X12_right M0)⟩
      · have h := Option.some.inj h
        subst h
        exact ⟨(Eqo.refl fwI_X12_right I0), (Eqo.refl fwM_X12_right M0)⟩
  · rcases fr_i h with h | h
    · have h := Option.some.inj h
      subst h
      exact ⟨(Eqo.refl fwI_X12_right I0), (Eqo.refl fwM_X12_right M0)⟩
    · have h := Option.some.inj h
      subst h
      exact ⟨(Eqo.refl fwI_X12_right I0), (Eqo.refl fwM_X12_right M0)⟩
abbrev fwI_X12_lays : List Nat := [3]
abbrev fwM_X12_lays : List Nat := [8]
theorem fr_fX12_lays_L3 {N : Nat} {x1 : Int32} : ∀ fu I0_l3 L0_l3 M0_l3 y3_2 R, fX12_lays_L3 N x1 fu I0_l3 L0_l3 M0_l3 y3_2 = some R → Eqo fwI_X12_lays R.1 I0_l3 ∧ Eqo fwM_X12_lays R.2.2 M0_l3 := by
  intro fu
  induction fu with
  | zero => intro I0_l3 L0_l3 M0_l3 y3_2 R h; cases (show none = some R from h)
  | succ fu ih =>
    intro I0_l3 L0_l3 M0_l3 y3_2 R h
    rw [fX12_lays_L3.eq_2] at h
    rcases fr_i h with h | h
    · have h := Option.some.inj h
      subst h
      exact ⟨(Eqo.refl fwI_X12_lays I0_l3), (Eqo.refl fwM_X12_lays M0_l3)⟩
    · obtain ⟨-, h⟩ := wb_n h
      obtain ⟨M0_1, e_M0_1, h⟩ := wb_v h
      have f_M0_1 := Eqo.eq e_M0_1 (Eqo.m (by decide) (Eqo.refl fwM_X12_lays M0_l3))
      obtain ⟨I0_2, e_I0_2, h⟩ := wb_v h
      have f_I0_2 := Eqo.eq e_I0_2 (Eqo.u (by decide) (Eqo.refl fwI_X12_lays I0_l3))
      obtain ⟨v3, -, h⟩ := wb_v h
      have a1 := ih _ _ _ _ _ h
      exact ⟨a1.1.tr (by decide) f_I0_2, a1.2.tr (by decide) f_M0_1⟩
theorem fr_fX12_lays {N : Nat} {I0 : Nat → Int32} {L0 : Int64} {M0 : Nat → Nat → Int32} {x1 : Int32} {R} (h : fX12_lays N I0 L0 M0 x1 = some R) : Eqo fwI_X12_lays R.1 I0 ∧ Eqo fwM_X12_lays R.2.2 M0 := by
  unfold fX12_lays at h
  have a1 := fr_fX12_lays_L3 _ _ _ _ _ _ h
  exact ⟨a1.1.tr (by decide) (Eqo.refl fwI_X12_lays I0), a1.2.tr (by decide) (Eqo.refl fwM_X12_lays M0)⟩
abbrev fwI_X12_feed : List Nat := [0, 3]
abbrev fwM_X12_feed : List Nat := [8]
theorem fr_fX12_feed {N : Nat} {I0 : Nat → Int32} {L0 : Int64} {M0 : Nat → Nat → Int32} {x1 : Int32} {x2 : Int32} {x3 : Int32} {x4 : Int32} {x5 : Int32} {R} (h : fX12_feed N I0 L0 M0 x1 x2 x3 x4 x5 = some R) : Eqo fwI_X12_feed R.2.1 I0 ∧ Eqo fwM_X12_feed R.2.2.2 M0 := by
  unfold fX12_feed at h
  obtain ⟨I0_1, e_I0_1, h⟩ := wb_v h
  have f_I0_1 := Eqo.eq e_I0_1 (Eqo.u (by decide) (Eqo.refl fwI_X12_feed I0))
  rcases fr_i h with h | h
  · obtain ⟨r2, e_r2, h⟩ := wb_b h
    have a1 := fr_fX12_lays e_r2
    have fI_r2 := a1.1.tr (W := fwI_X12_feed) (by decide) f_I0_1
    have fM_r2 := a1.2.tr (W := fwM_X12_feed) (by decide) (Eqo.refl fwM_X12_feed M0)
    obtain ⟨r3, e_r3, h⟩ := wb_b h
    have a2 := fr_fX12_lays e_r3
    have fI_r3 := a2.1.tr (W := fwI_X12_feed) (by decide) fI_r2
    have fM_r3 := a2.2.tr (W := fwM_X12_feed) (by decide) fM_r2
    obtain ⟨r4, e_r4, h⟩ := wb_b h
    have a3 := fr_fX12_lays e_r4
    have fI_r4 := a3.1.tr (W := fwI_X12_feed) (by decide) fI_r3
    have fM_r4 := a3.2.tr (W := fwM_X12_feed) (by decide) fM_r3
    obtain ⟨r5, e_r5, h⟩ := wb_b h
    have a4 := fr_fX12_lays e_r5
    have fI_r5 := a4.1.tr (W := fwI_X12_feed) (by decide) fI_r4
    have fM_r5 := a4.2.tr (W := fwM_X12_feed) (by decide) fM_r4
    obtain ⟨r6, e_r6, h⟩ := wb_b h
    have a5 := fr_fX12_lays e_r6
    have fI_r6 := a5.1.tr (W := fwI_X12_feed) (by decide) fI_r5
    have fM_r6 := a5.2.tr (W := fwM_X12_feed) (by decide) fM_r5
    have h := Option.some.inj h
    subst h
    exact ⟨fI_r6, fM_r6⟩
  · have h := Option.some.inj h
    subst h
    exact ⟨f_I0_1, (Eqo.refl fwM_X12_feed M0)⟩
abbrev fwI_X12_steps : List Nat := [7, 8, 9, 10, 11]
abbrev fwM_X12_steps : List Nat := []
theorem fr_fX12_steps_J279 {N : Nat} {I0_j279 : Nat → Int32} {L0_j279 : Int64} {M0_j279 : Nat → Nat → Int32} {R} (h : fX12_steps_J279 N I0_j279 L0_j279 M0_j279 = some R) : Eqo fwI_X12_steps R.1 I0_j279 ∧ Eqo fwM_X12_steps R.2.2 M0_j279 := by
  unfold fX12_steps_J279 at h
  obtain ⟨I0_1, e_I0_1, h⟩ := wb_v h
  have f_I0_1 := Eqo.eq e_I0_1 (Eqo.u (by decide) (Eqo.refl fwI_X12_steps I0_j279))
  have h := Option.some.inj h
  subst h
  exact ⟨f_I0_1, (Eqo.refl fwM_X12_steps M0_j279)⟩
theorem fr_fX12_steps_J276 {N : Nat} {I0_j276 : Nat → Int32} {L0_j276 : Int64} {M0_j276 : Nat → Nat → Int32} {z276_0 : Int32} {R} (h : fX12_steps_J276 N I0_j276 L0_j276 M0_j276 z276_0 = some R) : Eqo fwI_X12_steps R.1 I0_j276 ∧ Eqo fwM_X12_steps R.2.2 M0_j276 := by
  unfold fX12_steps_J276 at h
  obtain ⟨I0_2, e_I0_2, h⟩ := wb_v h
  have f_I0_2 := Eqo.eq e_I0_2 (Eqo.u (by decide) (Eqo.refl fwI_X12_steps I0_j276))
  have a1 := fr_fX12_steps_J279 h
  exact ⟨a1.1.tr (by decide) f_I0_2, a1.2.tr (by decide) (Eqo.refl fwM_X12_steps M0_j276)⟩
theorem fr_fX12_steps_L182 {N : Nat} : ∀ fu I0_l182 L0_l182 M0_l182 R, fX12_steps_L182 N fu I0_l182 L0_l182 M0_l182 = some R → Eqo fwI_X12_steps R.1 I0_l182 ∧ Eqo fwM_X12_steps R.2.2 M0_l182 := by
  intro fu
  induction fu with
  | zero => intro I0_l182 L0_l182 M0_l182 R h; cases (show none = some R from h)
  | succ fu ih =>
    intro I0_l182 L0_l182 M0_l182 R h
    rw [fX12_steps_L182.eq_2] at h
    obtain ⟨r10, -, h⟩ := wb_b h
    obtain ⟨r11, -, h⟩ := wb_b h
    rcases fr_i h with h | h
    · obtain ⟨I0_12, e_I0_12, h⟩ := wb_v h
      have f_I0_12 := Eqo.eq e_I0_12 (Eqo.u (by decide) (Eqo.refl fwI_X12_steps I0_l182))
      have a1 := fr_fX12_steps_J279 h
      exact ⟨a1.1.tr (by decide) f_I0_12, a1.2.tr (by decide) (Eqo.refl fwM_X12_steps M0_l182)⟩
    · rcases fr_i h with h | h
      · obtain ⟨I0_13, e_I0_13, h⟩ := wb_v h
        have f_I0_13 := Eqo.eq e_I0_13 (Eqo.u (by decide) (Eqo.refl fwI_X12_steps I0_l182))
        have a2 := ih _ _ _ _ h
        exact ⟨a2.1.tr (by decide) f_I0_13, a2.2.tr (by decide) (Eqo.refl fwM_X12_steps M0_l182)⟩
      · obtain ⟨r14, -, h⟩ := wb_b h
        obtain ⟨I0_15, e_I0_15, h⟩ := wb_v h
        have f_I0_15 := Eqo.eq e_I0_15 (Eqo.u (by decide) (Eqo.refl fwI_X12_steps I0_l182))
        obtain ⟨I0_16, e_I0_16, h⟩ := wb_v h
        have f_I0_16 := Eqo.eq e_I0_16 (Eqo.u (by decide) f_I0_15)
        have a3 := ih _ _ _ _ h
        exact ⟨a3.1.tr (by decide) f_I0_16, a3.2.tr (by decide) (Eqo.refl fwM_X12_steps M0_l182)⟩
theorem fr_fX12_steps_L103 {N : Nat} : ∀ fu I0_l103 L0_l103 M0_l103 R, fX12_steps_L103 N fu I0_l103 L0_l103 M0_l103 = some R → Eqo fwI_X12_steps R.1 I0_l103 ∧ Eqo fwM_X12_steps R.2.2 M0_l103 := by
  intro fu
  induction fu with
  | zero => intro I0_l103 L0_l103 M0_l103 R h; cases (show none = some R from h)
  | succ fu ih =>
    intro I0_l103 L0_l103 M0_l103 R h
    rw [fX12_steps_L103.eq_2] at h
    obtain ⟨r17, -, h⟩ := wb_b h
    obtain ⟨r18, -, h⟩ := wb_b h
    rcases fr_i h with h | h
    · obtain ⟨I0_19, e_I0_19, h⟩ := wb_v h
      have f_I0_19 := Eqo.eq e_I0_19 (Eqo.u (by decide) (Eqo.refl fwI_X12_steps I0_l103))
      have a1 := fr_fX12_steps_J279 h
      exact ⟨a1.1.tr (by decide) f_I0_19, a1.2.tr (by decide) (Eqo.refl fwM_X12_steps M0_l103)⟩
    · rcases fr_i h with h | h
      · obtain ⟨I0_20, e_I0_20, h⟩ := wb_v h
        have f_I0_20 := Eqo.eq e_I0_20 (Eqo.u (by decide) (Eqo.refl fwI_X12_steps I0_l103))
        have a2 := ih _ _ _ _ h
        exact ⟨a2.1.tr (by decide) f_I0_20, a2.2.tr (by decide) (Eqo.refl fwM_X12_steps M0_l103)⟩
      · obtain ⟨r21, -, h⟩ := wb_b h
        obtain ⟨L0_22, -, h⟩ := wb_v h
        obtain ⟨I0_23, e_I0_23, h⟩ := wb_v h
        have f_I0_23 := Eqo.eq e_I0_23 (Eqo.u (by decide) (Eqo.refl fwI_X12_steps I0_l103))
        have a3 := ih _ _ _ _ h
        exact ⟨a3.1.tr (by decide) f_I0_23, a3.2.tr (by decide) (Eqo.refl fwM_X12_steps M0_l103)⟩
theorem fr_fX12_steps_J50 {N : Nat} {I0_j50 : Nat → Int32} {L0_j50 : Int64} {M0_j50 : Nat → Nat → Int32} {R} (h : fX12_steps_J50 N I0_j50 L0_j50 M0_j50 = some R) : Eqo fwI_X12_steps R.1 I0_j50 ∧ Eqo fwM_X12_steps R.2.2 M0_j50 := by
  unfold fX12_steps_J50 at h
  obtain ⟨I0_3, e_I0_3, h⟩ := wb_v h
  have f_I0_3 := Eqo.eq e_I0_3 (Eqo.u (by decide) (Eqo.refl fwI_X12_steps I0_j50))
  obtain ⟨L0_4, -, h⟩ := wb_v h
  obtain ⟨I0_5, e_I0_5, h⟩ := wb_v h
  have f_I0_5 := Eqo.eq e_I0_5 (Eqo.u (by decide) f_I0_3)
  obtain ⟨r6, -, h⟩ := wb_b h
  rcases fr_i h with h | h
  · obtain ⟨r7, -, h⟩ := wb_b h
    rcases fr_i h with h | h
    · obtain ⟨r8, -, h⟩ := wb_b h
      rcases fr_i h with h | h
      · obtain ⟨I0_9, e_I0_9, h⟩ := wb_v h
        have f_I0_9 := Eqo.eq e_I0_9 (Eqo.u (by decide) f_I0_5)
        rcases fr_i h with h | h
        · have a1 := fr_fX12_steps_J276 h
          exact ⟨a1.1.tr (by decide) f_I0_9, a1.2.tr (by decide) (Eqo.refl fwM_X12_steps M0_j50)⟩
        · have a2 := fr_fX12_steps_J276 h
          exact ⟨a2.1.tr (by decide) f_I0_9, a2.2.tr (by decide) (Eqo.refl fwM_X12_steps M0_j50)⟩
      · have a3 := fr_fX12_steps_L182 _ _ _ _ _ h
        exact ⟨a3.1.tr (by decide) f_I0_5, a3.2.tr (by decide) (Eqo.refl fwM_X12_steps M0_j50)⟩
    · have a4 := fr_fX12_steps_L103 _ _ _ _ _ h
      exact ⟨a4.1.tr (by decide) f_I0_5, a4.2.tr (by decide) (Eqo.refl fwM_X12_steps M0_j50)⟩
  · obtain ⟨I0_24, e_I0_24, h⟩ := wb_v h
    have f_I0_24 := Eqo.eq e_I0_24 (Eqo.u (by decide) f_I0_5)
    have a5 := fr_fX12_steps_J279 h
    exact ⟨a5.1.tr (by decide) f_I0_24, a5.2.tr (by decide) (Eqo.refl fwM_X12_steps M0_j50)⟩
theorem fr_fX12_steps_L0 {N : Nat} : ∀ fu I0_l0 L0_l0 M0_l0 R, fX12_steps_L0 N fu I0_l0 L0_l0 M0_l0 = some R → Eqo fwI_X12_steps R.1 I0_l0 ∧ Eqo fwM_X12_steps R.2.2 M0_l0 := by
  intro fu
  induction fu with
  | zero => intro I0_l0 L0_l0 M0_l0 R h; cases (show none = some R from h)
  | succ fu ih =>
    intro I0_l0 L0_l0 M0_l0 R h
    rw [fX12_steps_L0.eq_2] at h
    rcases fr_i h with h | h
    · have a1 := fr_fX12_steps_J50 h
      exact ⟨a1.1.tr (by decide) (Eqo.refl fwI_X12_steps I0_l0), a1.2.tr (by decide) (Eqo.refl fwM_X12_steps M0_l0)⟩
    · obtain ⟨r25, -, h⟩ := wb_b h
      rcases fr_i h with h | h
      · obtain ⟨I0_26, e_I0_26, h⟩ := wb_v h
        have f_I0_26 := Eqo.eq e_I0_26 (Eqo.u (by decide) (Eqo.refl fwI_X12_steps I0_l0))
        have a2 := ih _ _ _ _ h
        exact ⟨a2.1.tr (by decide) f_I0_26, a2.2.tr (by decide) (Eqo.refl fwM_X12_steps M0_l0)⟩
      · obtain ⟨r27, -, h⟩ := wb_b h
        rcases fr_i h with h | h
        · obtain ⟨I0_28, e_I0_28, h⟩ := wb_v h
          have f_I0_28 := Eqo.eq e_I0_28 (Eqo.u (by decide) (Eqo.refl fwI_X12_steps I0_l0))
          have a3 := ih _ _ _ _ h
          exact ⟨a3.1.tr (by decide) f_I0_28, a3.2.tr (by decide) (Eqo.refl fwM_X12_steps M0_l0)⟩
        · have a4 := fr_fX12_steps_J50 h
          exact ⟨a4.1.tr (by decide) (Eqo.refl fwI_X12_steps I0_l0), a4.2.tr (by decide) (Eqo.refl fwM_X12_steps M0_l0)⟩
theorem fr_fX12_steps {N : Nat} {I0 : Nat → Int32} {L0 : Int64} {M0 : Nat → Nat → Int32} {R} (h : fX12_steps N I0 L0 M0 = some R) : Eqo fwI_X12_steps R.1 I0 ∧ Eqo fwM_X12_steps R.2.2 M0 := by
  unfold fX12_steps at h
  have a1 := fr_fX12_steps_L0 _ _ _ _ _ h
  exact ⟨a1.1.tr (by decide) (Eqo.refl fwI_X12_steps I0), a1.2.tr (by decide) (Eqo.refl fwM_X12_steps M0)⟩
abbrev fwI_X12_wrong : List Nat := [4, 5]
abbrev fwM_X12_wrong : List Nat := []
theorem fr_fX12_wrong {N : Nat} {I0 : Nat → Int32} {L0 : Int64} {M0 : Nat → Nat → Int32} {x1 : Int32} {R} (h : fX12_wrong N I0 L0 M0 x1 = some R) : Eqo fwI_X12_wrong R.1 I0 ∧ Eqo fwM_X12_wrong R.2.2 M0 := by
  unfold fX12_wrong at h
  rcases fr_i h with h | h
  · obtain ⟨I0_1, e_I0_1, h⟩ := wb_v h
    have f_I0_1 := Eqo.eq e_I0_1 (Eqo.u (by decide) (Eqo.refl fwI_X12_wrong I0))
    obtain ⟨I0_2, e_I0_2, h⟩ := wb_v h
    have f_I0_2 := Eqo.eq e_I0_2 (Eqo.u (by decide) f_I0_1)
    have h := Option.some.inj h
    subst h
    exact ⟨f_I0_2, (Eqo.refl fwM_X12_wrong M0)⟩
  · have h := Option.some.inj h
    subst h
    exact ⟨(Eqo.refl fwI_X12_wrong I0), (Eqo.refl fwM_X12_wrong M0)⟩
abbrev fwI_X12_need : List Nat := [4, 5, 7, 8, 9, 10, 11]
abbrev fwM_X12_need : List Nat := []
theorem fr_fX12_need {N : Nat} {I0 : Nat → Int32} {L0 : Int64} {M0 : Nat → Nat → Int32} {x1 : Int32} {R} (h : fX12_need N I0 L0 M0 x1 = some R) : Eqo fwI_X12_need R.1 I0 ∧ Eqo fwM_X12_need R.2.2 M0 := by
  unfold fX12_need at h
  obtain ⟨r1, -, h⟩ := wb_b h
  rcases fr_i h with h | h
  · have h := Option.some.inj h
    subst h
    exact ⟨(Eqo.refl fwI_X12_need I0), (Eqo.refl fwM_X12_need M0)⟩
  · rcases fr_i h with h | h
    · obtain ⟨r2, e_r2, h⟩ := wb_b h
      have a1 := fr_fX12_wrong e_r2
      have fI_r2 := a1.1.tr (W := fwI_X12_need) (by decide) (Eqo.refl fwI_X12_need I0)
      have fM_r2 := a1.2.tr (W := fwM_X12_need) (by decide) (Eqo.refl fwM_X12_need M0)
      have h := Option.some.inj h
      subst h
      exact ⟨fI_r2, fM_r2⟩
    · obtain ⟨r3, e_r3, h⟩ := wb_b h
      have a2 := fr_fX12_steps e_r3
      have fI_r3 := a2.1.tr (W := fwI_X12_need) (by decide) (Eqo.refl fwI_X12_need I0)
      have fM_r3 := a2.2.tr (W := fwM_X12_need) (by decide) (Eqo.refl fwM_X12_need M0)
      have h := Option.some.inj h
      subst h
      exact ⟨fI_r3, fM_r3⟩
abbrev fwI_X12_number : List Nat := [4, 5, 7, 8, 9, 10, 11]
abbrev fwM_X12_number : List Nat := []
theorem fr_fX12_number_J55 {N : Nat} {x1 : Int32} {x2 : Int32} {I0_j55 : Nat → Int32} {L0_j55 : Int64} {M0_j55 : Nat → Nat → Int32} {R} (h : fX12_number_J55 N x1 x2 I0_j55 L0_j55 M0_j55 = some R) : Eqo fwI_X12_number R.2.1 I0_j55 ∧ Eqo fwM_X12_number R.2.2.2 M0_j55 := by
  unfold fX12_number_J55 at h
  obtain ⟨v1, -, h⟩ := wb_v h
  obtain ⟨r2, -, h⟩ := wb_b h
  rcases fr_i h with h | h
  · have h := Option.some.inj h
    subst h
    exact ⟨(Eqo.refl fwI_X12_number I0_j55), (Eqo.refl fwM_X12_number M0_j55)⟩
  · obtain ⟨r3, e_r3, h⟩ := wb_b h
    have a1 := fr_fX12_steps e_r3
    have fI_r3 := a1.1.tr (W := fwI_X12_number) (by decide) (Eqo.refl fwI_X12_number I0_j55)
    have fM_r3 := a1.2.tr (W := fwM_X12_number) (by decide) (Eqo.refl fwM_X12_number M0_j55)
    have h := Option.some.inj h
    subst h
    exact ⟨fI_r3, fM_r3⟩
theorem fr_fX12_number_J50 {N : Nat} {x1 : Int32} {x2 : Int32} {I0_j50 : Nat → Int32} {L0_j50 : Int64} {M0_j50 : Nat → Nat → Int32} {R} (h : fX12_number_J50 N x1 x2 I0_j50 L0_j50 M0_j50 = some R) : Eqo fwI_X12_number R.2.1 I0_j50 ∧ Eqo fwM_X12_number R.2.2.2 M0_j50 := by
  unfold fX12_number_J50 at h
  obtain ⟨r4, e_r4, h⟩ := wb_b h
  have a1 := fr_fX12_wrong e_r4
  have fI_r4 := a1.1.tr (W := fwI_X12_number) (by decide) (Eqo.refl fwI_X12_number I0_j50)
  have fM_r4 := a1.2.tr (W := fwM_X12_number) (by decide) (Eqo.refl fwM_X12_number M0_j50)
  have a2 := fr_fX12_number_J55 h
  exact ⟨a2.1.tr (by decide) fI_r4, a2.2.tr (by decide) fM_r4⟩
theorem fr_fX12_number {N : Nat} {I0 : Nat → Int32} {L0 : Int64} {M0 : Nat → Nat → Int32} {x1 : Int32} {x2 : Int32} {R} (h : fX12_number N I0 L0 M0 x1 x2 = some R) : Eqo fwI_X12_number R.2.1 I0 ∧ Eqo fwM_X12_number R.2.2.2 M0 := by
  unfold fX12_number at h
  obtain ⟨r5, -, h⟩ := wb_b h
  rcases fr_i h with h | h
  · have h := Option.some.inj h
    subst h
    exact ⟨(Eqo.refl fwI_X12_number I0), (Eqo.refl fwM_X12_number M0)⟩
  · rcases fr_i h with h | h
    · rcases fr_i h with h | h
      · have a1 := fr_fX12_number_J50 h
        exact ⟨a1.1.tr (by decide) (Eqo.refl fwI_X12_number I0), a1.2.tr (by decide) (Eqo.refl fwM_X12_number M0)⟩
      · rcases fr_i h with h | h
        · have a2 := fr_fX12_number_J50 h
          exact ⟨a2.1.tr (by decide) (Eqo.refl fwI_X12_number I0), a2.2.tr (by decide) (Eqo.refl fwM_X12_number M0)⟩
        · rcases fr_i h with h | h
          · have a3 := fr_fX12_number_J55 h
            exact ⟨a3.1.tr (by decide) (Eqo.refl fwI_X12_number I0), a3.2.tr (by decide) (Eqo.refl fwM_X12_number M0)⟩
          · have a4 := fr_fX12_number_J50 h
            exact ⟨a4.1.tr (by decide) (Eqo.refl fwI_X12_number I0), a4.2.tr (by decide) (Eqo.refl fwM_X12_number M0)⟩
    · obtain ⟨r6, e_r6, h⟩ := wb_b h
      have a5 := fr_fX12_wrong e_r6
      have fI_r6 := a5.1.tr (W := fwI_X12_number) (by decide) (Eqo.refl fwI_X12_number I0)
      have fM_r6 := a5.2.tr (W := fwM_X12_number) (by decide) (Eqo.refl fwM_X12_number M0)
      have a6 := fr_fX12_number_J55 h
      exact ⟨a6.1.tr (by decide) fI_r6, a6.2.tr (by decide) fM_r6⟩
abbrev fwI_X12_named : List Nat := [4, 5, 7, 8, 9, 10, 11]
abbrev fwM_X12_named : List Nat := []
theorem fr_fX12_named {N : Nat} {I0 : Nat → Int32} {L0 : Int64} {M0 : Nat → Nat → Int32} {x1 : Int32} {x2 : Int32} {x3 : Int32} {R} (h : fX12_named N I0 L0 M0 x1 x2 x3 = some R) : Eqo fwI_X12_named R.2.1 I0 ∧ Eqo fwM_X12_named R.2.2.2 M0 := by
  unfold fX12_named at h
  obtain ⟨r1, -, h⟩ := wb_b h
  rcases fr_i h with h | h
  · obtain ⟨r4, e_r4, h⟩ := wb_b h
    have a1 := fr_fX12_need e_r4
    have fI_r4 := a1.1.tr (W := fwI_X12_named) (by decide) (Eqo.refl fwI_X12_named I0)
    have fM_r4 := a1.2.tr (W := fwM_X12_named) (by decide) (Eqo.refl fwM_X12_named M0)
    obtain ⟨r5, e_r5, h⟩ := wb_b h
    have a2 := fr_fX12_number e_r5
    have fI_r5 := a2.1.tr (W := fwI_X12_named) (by decide) fI_r4
    have fM_r5 := a2.2.tr (W := fwM_X12_named) (by decide) fM_r4
    have h := Option.some.inj h
    subst h
    exact ⟨fI_r5, fM_r5⟩
  · obtain ⟨r2, e_r2, h⟩ := wb_b h
    have a3 := fr_fX12_need e_r2
    have fI_r2 := a3.1.tr (W := fwI_X12_named) (by decide) (Eqo.refl fwI_X12_named I0)
    have fM_r2 := a3.2.tr (W := fwM_X12_named) (by decide) (Eqo.refl fwM_X12_named M0)
    obtain ⟨r3, e_r3, h⟩ := wb_b h
    have a4 := fr_fX12_number e_r3
    have fI_r3 := a4.1.tr (W := fwI_X12_named) (by decide) fI_r2
    have fM_r3 := a4.2.tr (W := fwM_X12_named) (by decide) fM_r2
    have h := Option.some.inj h
    subst h
    exact ⟨fI_r3, fM_r3⟩
abbrev fwI_X12_begins : List Nat := [0, 3, 4, 5, 6, 7, 8, 9, 10, 11]
abbrev fwM_X12_begins : List Nat := []
theorem fr_fX12_begins_J37 {N : Nat} {x1 : Int32} {I0_j37 : Nat → Int32} {L0_j37 : Int64} {M0_j37 : Nat → Nat → Int32} {z37_0 : Int32} {z37_1 : Int32} {R} (h : fX12_begins_J37 N x1 I0_j37 L0_j37 M0_j37 z37_0 z37_1 = some R) : Eqo fwI_X12_begins R.2.1 I0_j37 ∧ Eqo fwM_X12_begins R.2.2.2 M0_j37 := by
  unfold fX12_begins_J37 at h
  obtain ⟨r1, e_r1, h⟩ := wb_b h
  have a1 := fr_fX12_right e_r1
  have fI_r1 := a1.1.tr (W := fwI_X12_begins) (by decide) (Eqo.refl fwI_X12_begins I0_j37)
  have fM_r1 := a1.2.tr (W := fwM_X12_begins) (by decide) (Eqo.refl fwM_X12_begins M0_j37)
  rcases fr_i h with h | h
  · have h := Option.some.inj h
    subst h
    exact ⟨fI_r1, fM_r1⟩
  · obtain ⟨I0_2, e_I0_2, h⟩ := wb_v h
    have f_I0_2 := Eqo.eq e_I0_2 (Eqo.u (by decide) fI_r1)
    obtain ⟨I0_3, e_I0_3, h⟩ := wb_v h
    have f_I0_3 := Eqo.eq e_I0_3 (Eqo.u (by decide) f_I0_2)
    obtain ⟨I0_4, e_I0_4, h⟩ := wb_v h
    have f_I0_4 := Eqo.eq e_I0_4 (Eqo.u (by decide) f_I0_3)
    obtain ⟨I0_5, e_I0_5, h⟩ := wb_v h
    have f_I0_5 := Eqo.eq e_I0_5 (Eqo.u (by decide) f_I0_4)
    obtain ⟨I0_6, e_I0_6, h⟩ := wb_v h
    have f_I0_6 := Eqo.eq e_I0_6 (Eqo.u (by decide) f_I0_5)
    obtain ⟨r7, e_r7, h⟩ := wb_b h
    have a2 := fr_fX12_steps e_r7
    have fI_r7 := a2.1.tr (W := fwI_X12_begins) (by decide) f_I0_6
    have fM_r7 := a2.2.tr (W := fwM_X12_begins) (by decide) fM_r1
    have h := Option.some.inj h
    subst h
    exact ⟨fI_r7, fM_r7⟩
theorem fr_fX12_begins_J36 {N : Nat} {x1 : Int32} {I0_j36 : Nat → Int32} {L0_j36 : Int64} {M0_j36 : Nat → Nat → Int32} {z36_0 : Int32} {R} (h : fX12_begins_J36 N x1 I0_j36 L0_j36 M0_j36 z36_0 = some R) : Eqo fwI_X12_begins R.2.1 I0_j36 ∧ Eqo fwM_X12_begins R.2.2.2 M0_j36 := by
  unfold fX12_begins_J36 at h
  have a1 := fr_fX12_begins_J37 h
  exact ⟨a1.1.tr (by decide) (Eqo.refl fwI_X12_begins I0_j36), a1.2.tr (by decide) (Eqo.refl fwM_X12_begins M0_j36)⟩
theorem fr_fX12_begins_J18 {N : Nat} {x1 : Int32} {I0_j18 : Nat → Int32} {L0_j18 : Int64} {M0_j18 : Nat → Nat → Int32} {z18_0 : Int32} {R} (h : fX12_begins_J18 N x1 I0_j18 L0_j18 M0_j18 z18_0 = some R) : Eqo fwI_X12_begins R.2.1 I0_j18 ∧ Eqo fwM_X12_begins R.2.2.2 M0_j18 := by
  unfold fX12_begins_J18 at h
  rcases fr_i h with h | h
  · rcases fr_i h with h | h
    · have a1 := fr_fX12_begins_J36 h
      exact ⟨a1.1.tr (by decide) (Eqo.refl fwI_X12_begins I0_j18), a1.2.tr (by decide) (Eqo.refl fwM_X12_begins M0_j18)⟩
    · have a2 := fr_fX12_begins_J37 h
      exact ⟨a2.1.tr (by decide) (Eqo.refl fwI_X12_begins I0_j18), a2.2.tr (by decide) (Eqo.refl fwM_X12_begins M0_j18)⟩
  · have a3 := fr_fX12_begins_J36 h
    exact ⟨a3.1.tr (by decide) (Eqo.refl fwI_X12_begins I0_j18), a3.2.tr (by decide) (Eqo.refl fwM_X12_begins M0_j18)⟩
theorem fr_fX12_begins_J17 {N : Nat} {x1 : Int32} {I0_j17 : Nat → Int32} {L0_j17 : Int64} {M0_j17 : Nat → Nat → Int32} {R} (h : fX12_begins_J17 N x1 I0_j17 L0_j17 M0_j17 = some R) : Eqo fwI_X12_begins R.2.1 I0_j17 ∧ Eqo fwM_X12_begins R.2.2.2 M0_j17 := by
  unfold fX12_begins_J17 at h
  have a1 := fr_fX12_begins_J18 h
  exact ⟨a1.1.tr (by decide) (Eqo.refl fwI_X12_begins I0_j17), a1.2.tr (by decide) (Eqo.refl fwM_X12_begins M0_j17)⟩
theorem fr_fX12_begins {N : Nat} {I0 : Nat → Int32} {L0 : Int64} {M0 : Nat → Nat → Int32} {x1 : Int32} {R} (h : fX12_begins N I0 L0 M0 x1 = some R) : Eqo fwI_X12_begins R.2.1 I0 ∧ Eqo fwM_X12_begins R.2.2.2 M0 := by
  unfold fX12_begins at h
  rcases fr_i h with h | h
  · have a1 := fr_fX12_begins_J17 h
    exact ⟨a1.1.tr (by decide) (Eqo.refl fwI_X12_begins I0), a1.2.tr (by decide) (Eqo.refl fwM_X12_begins M0)⟩
  · rcases fr_i h with h | h
    · have a2 := fr_fX12_begins_J17 h
      exact ⟨a2.1.tr (by decide) (Eqo.refl fwI_X12_begins I0), a2.2.tr (by decide) (Eqo.refl fwM_X12_begins M0)⟩
    · have a3 := fr_fX12_begins_J18 h
      exact ⟨a3.1.tr (by decide) (Eqo.refl fwI_X12_begins I0), a3.2.tr (by decide) (Eqo.refl fwM_X12_begins M0)⟩
abbrev fwI_X12_readsSet : List Nat := [4, 5, 7, 8, 9, 10, 11]
abbrev fwM_X12_readsSet : List Nat := [9, 10, 11, 12]
theorem fr_fX12_readsSet_J102 {N : Nat} {I0_j102 : Nat → Int32} {L0_j102 : Int64} {M0_j102 : Nat → Nat → Int32} {y102_1 : Int32} {y102_2 : Int32} {y102_3 : Int32} {y102_4 : Int32} {y102_5 : Int32} {y102_6 : Int32} {R} (h : fX12_readsSet_J102 N I0_j102 L0_j102 M0_j102 y102_1 y102_2 y102_3 y102_4 y102_5 y102_6 = some R) : Eqo fwI_X12_readsSet R.1 I0_j102 ∧ Eqo fwM_X12_readsSet R.2.2 M0_j102 := by
  unfold fX12_readsSet_J102 at h
  obtain ⟨r1, -, h⟩ := wb_b h
  rcases fr_i h with h | h
  · have h := Option.some.inj h
    subst h
    exact ⟨(Eqo.refl fwI_X12_readsSet I0_j102), (Eqo.refl fwM_X12_readsSet M0_j102)⟩
  · obtain ⟨-, h⟩ := wb_n h
    obtain ⟨M0_2, e_M0_2, h⟩ := wb_v h
    have f_M0_2 := Eqo.eq e_M0_2 (Eqo.m (by decide) (Eqo.refl fwM_X12_readsSet M0_j102))
    obtain ⟨-, h⟩ := wb_n h
    obtain ⟨M0_3, e_M0_3, h⟩ := wb_v h
    have f_M0_3 := Eqo.eq e_M0_3 (Eqo.m (by decide) f_M0_2)
    obtain ⟨-, h⟩ := wb_n h
    obtain ⟨M0_4, e_M0_4, h⟩ := wb_v h
    have f_M0_4 := Eqo.eq e_M0_4 (Eqo.m (by decide) f_M0_3)
    obtain ⟨-, h⟩ := wb_n h
    obtain ⟨M0_5, e_M0_5, h⟩ := wb_v h
    have f_M0_5 := Eqo.eq e_M0_5 (Eqo.m (by decide) f_M0_4)
    have h := Option.some.inj h
    subst h
    exact ⟨(Eqo.refl fwI_X12_readsSet I0_j102), f_M0_5⟩
theorem fr_fX12_readsSet_J32 {N : Nat} {I0_j32 : Nat → Int32} {L0_j32 : Int64} {M0_j32 : Nat → Nat → Int32} {y32_1 : Int32} {y32_2 : Int32} {z32_0 : Int32} {R} (h : fX12_readsSet_J32 N I0_j32 L0_j32 M0_j32 y32_1 y32_2 z32_0 = some R) : Eqo fwI_X12_readsSet R.1 I0_j32 ∧ Eqo fwM_X12_readsSet R.2.2 M0_j32 := by
  unfold fX12_readsSet_J32 at h
  obtain ⟨r6, e_r6, h⟩ := wb_b h
  have a1 := fr_fX12_need e_r6
  have fI_r6 := a1.1.tr (W := fwI_X12_readsSet) (by decide) (Eqo.refl fwI_X12_readsSet I0_j32)
  have fM_r6 := a1.2.tr (W := fwM_X12_readsSet) (by decide) (Eqo.refl fwM_X12_readsSet M0_j32)
  obtain ⟨r7, e_r7, h⟩ := wb_b h
  have a2 := fr_fX12_named e_r7
  have fI_r7 := a2.1.tr (W := fwI_X12_readsSet) (by decide) fI_r6
  have fM_r7 := a2.2.tr (W := fwM_X12_readsSet) (by decide) fM_r6
  obtain ⟨v8, -, h⟩ := wb_v h
  obtain ⟨r9b, e_r9b, h⟩ := wb_b h
  have a3 := fr_fX12_named e_r9b
  have fI_r9b := a3.1.tr (W := fwI_X12_readsSet) (by decide) fI_r7
  have fM_r9b := a3.2.tr (W := fwM_X12_readsSet) (by decide) fM_r7
  obtain ⟨v10, -, h⟩ := wb_v h
  obtain ⟨r11, -, h⟩ := wb_b h
  rcases fr_i h with h | h
  · have a4 := fr_fX12_readsSet_J102 h
    exact ⟨a4.1.tr (by decide) fI_r9b, a4.2.tr (by decide) fM_r9b⟩
  · obtain ⟨r12, -, h⟩ := wb_b h
    rcases fr_i h with h | h
    · obtain ⟨r13, e_r13, h⟩ := wb_b h
      have a5 := fr_fX12_named e_r13
      have fI_r13 := a5.1.tr (W := fwI_X12_readsSet) (by decide) fI_r9b
      have fM_r13 := a5.2.tr (W := fwM_X12_readsSet) (by decide) fM_r9b
      obtain ⟨v14, -, h⟩ := wb_v h
      obtain ⟨r15, e_r15, h⟩ := wb_b h
      have a6 := fr_fX12_named e_r15
      have fI_r15 := a6.1.tr (W := fwI_X12_readsSet) (by decide) fI_r13
      have fM_r15 := a6.2.tr (W := fwM_X12_readsSet) (by decide) fM_r13
      obtain ⟨v16, -, h⟩ := wb_v h
      have a7 := fr_fX12_readsSet_J102 h
      exact ⟨a7.1.tr (by decide) fI_r15, a7.2.tr (by decide) fM_r15⟩
    · have a8 := fr_fX12_readsSet_J102 h
      exact ⟨a8.1.tr (by decide) fI_r9b, a8.2.tr (by decide) fM_r9b⟩
theorem fr_fX12_readsSet_J31 {N : Nat} {I0_j31 : Nat → Int32} {L0_j31 : Int64} {M0_j31 : Nat → Nat → Int32} {y31_1 : Int32} {y31_2 : Int32} {R} (h : fX12_readsSet_J31 N I0_j31 L0_j31 M0_j31 y31_1 y31_2 = some R) : Eqo fwI_X12_readsSet R.1 I0_j31 ∧ Eqo fwM_X12_readsSet R.2.2 M0_j31 := by
  unfold fX12_readsSet_J31 at h
  have a1 := fr_fX12_readsSet_J32 h
  exact ⟨a1.1.tr (by decide) (Eqo.refl fwI_X12_readsSet I0_j31), a1.2.tr (by decide) (Eqo.refl fwM_X12_readsSet M0_j31)⟩
theorem fr_fX12_readsSet {N : Nat} {I0 : Nat → Int32} {L0 : Int64} {M0 : Nat → Nat → Int32} {R} (h : fX12_readsSet N I0 L0 M0 = some R) : Eqo fwI_X12_readsSet R.1 I0 ∧ Eqo fwM_X12_readsSet R.2.2 M0 := by
  unfold fX12_readsSet at h
  obtain ⟨r17, e_r17, h⟩ := wb_b h
  have a1 := fr_fX12_steps e_r17
  have fI_r17 := a1.1.tr (W := fwI_X12_readsSet) (by decide) (Eqo.refl fwI_X12_readsSet I0)
  have fM_r17 := a1.2.tr (W := fwM_X12_readsSet) (by decide) (Eqo.refl fwM_X12_readsSet M0)
  obtain ⟨r18, e_r18, h⟩ := wb_b h
  have a2 := fr_fX12_number e_r18
  have fI_r18 := a2.1.tr (W := fwI_X12_readsSet) (by decide) fI_r17
  have fM_r18 := a2.2.tr (W := fwM_X12_readsSet) (by decide) fM_r17
  obtain ⟨v19, -, h⟩ := wb_v h
  obtain ⟨r20, -, h⟩ := wb_b h
  rcases fr_i h with h | h
  · have a3 := fr_fX12_readsSet_J31 h
    exact ⟨a3.1.tr (by decide) fI_r18, a3.2.tr (by decide) fM_r18⟩
  · rcases fr_i h with h | h
    · have a4 := fr_fX12_readsSet_J31 h
      exact ⟨a4.1.tr (by decide) fI_r18, a4.2.tr (by decide) fM_r18⟩
    · have a5 := fr_fX12_readsSet_J32 h
      exact ⟨a5.1.tr (by decide) fI_r18, a5.2.tr (by decide) fM_r18⟩
abbrev fwI_X12_readsClimate : List Nat := [4, 5, 7, 8, 9, 10, 11, 13]
abbrev fwM_X12_readsClimate : List Nat := [13]
theorem fr_fX12_readsClimate_J155 {N : Nat} {I0_j155 : Nat → Int32} {L0_j155 : Int64} {M0_j155 : Nat → Nat → Int32} {R} (h : fX12_readsClimate_J155 N I0_j155 L0_j155 M0_j155 = some R) : Eqo fwI_X12_readsClimate R.1 I0_j155 ∧ Eqo fwM_X12_readsClimate R.2.2 M0_j155 := by
  unfold fX12_readsClimate_J155 at h
  obtain ⟨r1, -, h⟩ := wb_b h
  rcases fr_i h with h | h
  · have h := Option.some.inj h
    subst h
    exact ⟨(Eqo.refl fwI_X12_readsClimate I0_j155), (Eqo.refl fwM_X12_readsClimate M0_j155)⟩
  · obtain ⟨I0_2, e_I0_2, h⟩ := wb_v h
    have f_I0_2 := Eqo.eq e_I0_2 (Eqo.u (by decide) (Eqo.refl fwI_X12_readsClimate I0_j155))
    have h := Option.some.inj h
    subst h
    exact ⟨f_I0_2, (Eqo.refl fwM_X12_readsClimate M0_j155)⟩
theorem fr_fX12_readsClimate_J111 {N : Nat} {g43 : (Nat → Int32) → Int64 → (Nat → Nat → Int32) → Int32 → Int32 → Option ((Nat → Int32) × Int64 × (Nat → Nat → Int32))} {I0_j111 : Nat → Int32} {L0_j111 : Int64} {M0_j111 : Nat → Nat → Int32} {y111_1 : Int32} {y111_2 : Int32} (hg43 : ∀ q0 q1 q2 q3 q4 R, g43 q0 q1 q2 q3 q4 = some R → Eqo fwI_X12_readsClimate R.1 q0 ∧ Eqo fwM_X12_readsClimate R.2.2 q2) {R} (h : fX12_readsClimate_J111 N g43 I0_j111 L0_j111 M0_j111 y111_1 y111_2 = some R) : Eqo fwI_X12_readsClimate R.1 I0_j111 ∧ Eqo fwM_X12_readsClimate R.2.2 M0_j111 := by
  unfold fX12_readsClimate_J111 at h
  obtain ⟨r6, e_r6, h⟩ := wb_b h
  have a1 := fr_fX12_number e_r6
  have fI_r6 := a1.1.tr (W := fwI_X12_readsClimate) (by decide) (Eqo.refl fwI_X12_readsClimate I0_j111)
  have fM_r6 := a1.2.tr (W := fwM_X12_readsClimate) (by decide) (Eqo.refl fwM_X12_readsClimate M0_j111)
  obtain ⟨v7, -, h⟩ := wb_v h
  obtain ⟨r8, -, h⟩ := wb_b h
  rcases fr_i h with h | h
  · obtain ⟨v9, -, h⟩ := wb_v h
    obtain ⟨v10, -, h⟩ := wb_v h
    have a2 := hg43 _ _ _ _ _ _ h
    exact ⟨a2.1.tr (by decide) fI_r6, a2.2.tr (by decide) fM_r6⟩
  · obtain ⟨-, h⟩ := wb_n h
    obtain ⟨M0_11, e_M0_11, h⟩ := wb_v h
    have f_M0_11 := Eqo.eq e_M0_11 (Eqo.m (by decide) fM_r6)
    obtain ⟨v12, -, h⟩ := wb_v h
    obtain ⟨v13, -, h⟩ := wb_v h
    have a3 := hg43 _ _ _ _ _ _ h
    exact ⟨a3.1.tr (by decide) fI_r6, a3.2.tr (by decide) f_M0_11⟩
theorem fr_fX12_readsClimate_J98 {N : Nat} {g43 : (Nat → Int32) → Int64 → (Nat → Nat → Int32) → Int32 → Int32 → Option ((Nat → Int32) × Int64 × (Nat → Nat → Int32))} {I0_j98 : Nat → Int32} {L0_j98 : Int64} {M0_j98 : Nat → Nat → Int32} {y98_1 : Int32} {y98_2 : Int32} {z98_0 : Int32} (hg43 : ∀ q0 q1 q2 q3 q4 R, g43 q0 q1 q2 q3 q4 = some R → Eqo fwI_X12_readsClimate R.1 q0 ∧ Eqo fwM_X12_readsClimate R.2.2 q2) {R} (h : fX12_readsClimate_J98 N g43 I0_j98 L0_j98 M0_j98 y98_1 y98_2 z98_0 = some R) : Eqo fwI_X12_readsClimate R.1 I0_j98 ∧ Eqo fwM_X12_readsClimate R.2.2 M0_j98 := by
  unfold fX12_readsClimate_J98 at h
  rcases fr_i h with h | h
  · obtain ⟨r14, e_r14, h⟩ := wb_b h
    have a1 := fr_fX12_wrong e_r14
    have fI_r14 := a1.1.tr (W := fwI_X12_readsClimate) (by decide) (Eqo.refl fwI_X12_readsClimate I0_j98)
    have fM_r14 := a1.2.tr (W := fwM_X12_readsClimate) (by decide) (Eqo.refl fwM_X12_readsClimate M0_j98)
    have a2 := fr_fX12_readsClimate_J111 hg43 h
    exact ⟨a2.1.tr (by decide) fI_r14, a2.2.tr (by decide) fM_r14⟩
  · have a3 := fr_fX12_readsClimate_J111 hg43 h
    exact ⟨a3.1.tr (by decide) (Eqo.refl fwI_X12_readsClimate I0_j98), a3.2.tr (by decide) (Eqo.refl fwM_X12_readsClimate M0_j98)⟩
theorem fr_fX12_readsClimate_J97 {N : Nat} {g43 : (Nat → Int32) → Int64 → (Nat → Nat → Int32) → Int32 → Int32 → Option ((Nat → Int32) × Int64 × (Nat → Nat → Int32))} {I0_j97 : Nat → Int32} {L0_j97 : Int64} {M0_j97 : Nat → Nat → Int32} {y97_1 : Int32} {y97_2 : Int32} (hg43 : ∀ q0 q1 q2 q3 q4 R, g43 q0 q1 q2 q3 q4 = some R → Eqo fwI_X12_readsClimate R.1 q0 ∧ Eqo fwM_X12_readsClimate R.2.2 q2) {R} (h : fX12_readsClimate_J97 N g43 I0_j97 L0_j97 M0_j97 y97_1 y97_2 = some R) : Eqo fwI_X12_readsClimate R.1 I0_j97 ∧ Eqo fwM_X12_readsClimate R.2.2 M0_j97 := by
  unfold fX12_readsClimate_J97 at h
  have a1 := fr_fX12_readsClimate_J98 hg43 h
  exact ⟨a1.1.tr (by decide) (Eqo.refl fwI_X12_readsClimate I0_j97), a1.2.tr (by decide) (Eqo.refl fwM_X12_readsClimate M0_j97)⟩
theorem fr_fX12_readsClimate_L43 {N : Nat} : ∀ fu I0_l43 L0_l43 M0_l43 y43_1 y43_2 R, fX12_readsClimate_L43 N fu I0_l43 L0_l43 M0_l43 y43_1 y43_2 = some R → Eqo fwI_X12_readsClimate R.1 I0_l43 ∧ Eqo fwM_X12_readsClimate R.2.2 M0_l43 := by
  intro fu
  induction fu with
  | zero => intro I0_l43 L0_l43 M0_l43 y43_1 y43_2 R h; cases (show none = some R from h)
  | succ fu ih =>
    intro I0_l43 L0_l43 M0_l43 y43_1 y43_2 R h
    rw [fX12_readsClimate_L43.eq_2] at h
    rcases fr_i h with h | h
    · have a1 := fr_fX12_readsClimate_J155 h
      exact ⟨a1.1.tr (by decide) (Eqo.refl fwI_X12_readsClimate I0_l43), a1.2.tr (by decide) (Eqo.refl fwM_X12_readsClimate M0_l43)⟩
    · obtain ⟨r15, -, h⟩ := wb_b h
      rcases fr_i h with h | h
      · have a2 := fr_fX12_readsClimate_J155 h
        exact ⟨a2.1.tr (by decide) (Eqo.refl fwI_X12_readsClimate I0_l43), a2.2.tr (by decide) (Eqo.refl fwM_X12_readsClimate M0_l43)⟩
      · obtain ⟨v16, -, h⟩ := wb_v h
        rcases fr_i h with h | h
        · rcases fr_i h with h | h
          · rcases fr_i h with h | h
            · have c105 : ∀ q0 q1 q2 q3 q4 R, (fX12_readsClimate_L43 N fu q0 q1 q2 q3 q4) = some R → Eqo fwI_X12_readsClimate R.1 q0 ∧ Eqo fwM_X12_readsClimate R.2.2 q2 := by
                  intro q0 q1 q2 q3 q4 R h
                  have a104 := ih _ _ _ _ _ _ h
                  exact ⟨a104.1.tr (by decide) (Eqo.refl fwI_X12_readsClimate q0), a104.2.tr (by decide) (Eqo.refl fwM_X12_readsClimate q2)⟩
              have a3 := fr_fX12_readsClimate_J97 c105 h
              exact ⟨a3.1.tr (by decide) (Eqo.refl fwI_X12_readsClimate I0_l43), a3.2.tr (by decide) (Eqo.refl fwM_X12_readsClimate M0_l43)⟩
            · rcases fr_i h with h | h
              · have c208 : ∀ q0 q1 q2 q3 q4 R, (fX12_readsClimate_L43 N fu q0 q1 q2 q3 q4) = some R → Eqo fwI_X12_readsClimate R.1 q0 ∧ Eqo fwM_X12_readsClimate R.2.2 q2 := by
                    intro q0 q1 q2 q3 q4 R h
                    have a207 := ih _ _ _ _ _ _ h
                    exact ⟨a207.1.tr (by decide) (Eqo.refl fwI_X12_readsClimate q0), a207.2.tr (by decide) (Eqo.refl fwM_X12_readsClimate q2)⟩
                have a106 := fr_fX12_readsClimate_J97 c208 h
                exact ⟨a106.1.tr (by decide) (Eqo.refl fwI_X12_readsClimate I0_l43), a106.2.tr (by decide) (Eqo.refl fwM_X12_readsClimate M0_l43)⟩
              · have c311 : ∀ q0 q1 q2 q3 q4 R, (fX12_readsClimate_L43 N fu q0 q1 q2 q3 q4) = some R → Eqo fwI_X12_readsClimate R.1 q0 ∧ Eqo fwM_X12_readsClimate R.2.2 q2 := by
                    intro q0 q1 q2 q3 q4 R h
                    have a310 := ih _ _ _ _ _ _ h
                    exact ⟨a310.1.tr (by decide) (Eqo.refl fwI_X12_readsClimate q0), a310.2.tr (by decide) (Eqo.refl fwM_X12_readsClimate q2)⟩
                have a209 := fr_fX12_readsClimate_J98 c311 h
                exact ⟨a209.1.tr (by decide) (Eqo.refl fwI_X12_readsClimate I0_l43), a209.2.tr (by decide) (Eqo.refl fwM_X12_readsClimate M0_l43)⟩
          · have c414 : ∀ q0 q1 q2 q3 q4 R, (fX12_readsClimate_L43 N fu q0 q1 q2 q3 q4) = some R → Eqo fwI_X12_readsClimate R.1 q0 ∧ Eqo fwM_X12_readsClimate R.2.2 q2 := by
                intro q0 q1 q2 q3 q4 R h
                have a413 := ih _ _ _ _ _ _ h
                exact ⟨a413.1.tr (by decide) (Eqo.refl fwI_X12_readsClimate q0), a413.2.tr (by decide) (Eqo.refl fwM_X12_readsClimate q2)⟩
            have a312 := fr_fX12_readsClimate_J97 c414 h
            exact ⟨a312.1.tr (by decide) (Eqo.refl fwI_X12_readsClimate I0_l43), a312.2.tr (by decide) (Eqo.refl fwM_X12_readsClimate M0_l43)⟩
        · have c517 : ∀ q0 q1 q2 q3 q4 R, (fX12_readsClimate_L43 N fu q0 q1 q2 q3 q4) = some R → Eqo fwI_X12_readsClimate R.1 q0 ∧ Eqo fwM_X12_readsClimate R.2.2 q2 := by
              intro q0 q1 q2 q3 q4 R h
              have a516 := ih _ _ _ _ _ _ h
              exact ⟨a516.1.tr (by decide) (Eqo.refl fwI_X12_readsClimate q0), a516.2.tr (by decide) (Eqo.refl fwM_X12_readsClimate q2)⟩
          have a415 := fr_fX12_readsClimate_J97 c517 h
          exact ⟨a415.1.tr (by decide) (Eqo.refl fwI_X12_readsClimate I0_l43), a415.2.tr (by decide) (Eqo.refl fwM_X12_readsClimate M0_l43)⟩
theorem fr_fX12_readsClimate_J14 {N : Nat} {I0_j14 : Nat → Int32} {L0_j14 : Int64} {M0_j14 : Nat → Nat → Int32} {R} (h : fX12_readsClimate_J14 N I0_j14 L0_j14 M0_j14 = some R) : Eqo fwI_X12_readsClimate R.1 I0_j14 ∧ Eqo fwM_X12_readsClimate R.2.2 M0_j14 := by
  unfold fX12_readsClimate_J14 at h
  obtain ⟨r3, -, h⟩ := wb_b h
  rcases fr_i h with h | h
  · have h := Option.some.inj h
    subst h
    exact ⟨(Eqo.refl fwI_X12_readsClimate I0_j14), (Eqo.refl fwM_X12_readsClimate M0_j14)⟩
  · obtain ⟨r4, e_r4, h⟩ := wb_b h
    have a1 := fr_fX12_steps e_r4
    have fI_r4 := a1.1.tr (W := fwI_X12_readsClimate) (by decide) (Eqo.refl fwI_X12_readsClimate I0_j14)
    have fM_r4 := a1.2.tr (W := fwM_X12_readsClimate) (by decide) (Eqo.refl fwM_X12_readsClimate M0_j14)
    obtain ⟨r5, e_r5, h⟩ := wb_b h
    have a2 := fr_fX12_number e_r5
    have fI_r5 := a2.1.tr (W := fwI_X12_readsClimate) (by decide) fI_r4
    have fM_r5 := a2.2.tr (W := fwM_X12_readsClimate) (by decide) fM_r4
    have a3 := fr_fX12_readsClimate_L43 _ _ _ _ _ _ _ h
    exact ⟨a3.1.tr (by decide) fI_r5, a3.2.tr (by decide) fM_r5⟩
theorem fr_fX12_readsClimate {N : Nat} {I0 : Nat → Int32} {L0 : Int64} {M0 : Nat → Nat → Int32} {R} (h : fX12_readsClimate N I0 L0 M0 = some R) : Eqo fwI_X12_readsClimate R.1 I0 ∧ Eqo fwM_X12_readsClimate R.2.2 M0 := by
  unfold fX12_readsClimate at h
  rcases fr_i h with h | h
  · obtain ⟨r17, e_r17, h⟩ := wb_b h
    have a1 := fr_fX12_wrong e_r17
    have fI_r17 := a1.1.tr (W := fwI_X12_readsClimate) (by decide) (Eqo.refl fwI_X12_readsClimate I0)
    have fM_r17 := a1.2.tr (W := fwM_X12_readsClimate) (by decide) (Eqo.refl fwM_X12_readsClimate M0)
    have a2 := fr_fX12_readsClimate_J14 h
    exact ⟨a2.1.tr (by decide) fI_r17, a2.2.tr (by decide) fM_r17⟩
  · have a3 := fr_fX12_readsClimate_J14 h
    exact ⟨a3.1.tr (by decide) (Eqo.refl fwI_X12_readsClimate I0), a3.2.tr (by decide) (Eqo.refl fwM_X12_readsClimate M0)⟩
abbrev fwI_X12_readsHand : List Nat := [4, 5, 7, 8, 9, 10, 11, 14]
abbrev fwM_X12_readsHand : List Nat := [14, 15]
theorem fr_fX12_readsHand_J14 {N : Nat} {I0_j14 : Nat → Int32} {L0_j14 : Int64} {M0_j14 : Nat → Nat → Int32} {R} (h : fX12_readsHand_J14 N I0_j14 L0_j14 M0_j14 = some R) : Eqo fwI_X12_readsHand R.1 I0_j14 ∧ Eqo fwM_X12_readsHand R.2.2 M0_j14 := by
  unfold fX12_readsHand_J14 at h
  obtain ⟨r1, -, h⟩ := wb_b h
  rcases fr_i h with h | h
  · have h := Option.some.inj h
    subst h
    exact ⟨(Eqo.refl fwI_X12_readsHand I0_j14), (Eqo.refl fwM_X12_readsHand M0_j14)⟩
  · obtain ⟨r2, e_r2, h⟩ := wb_b h
    have a1 := fr_fX12_steps e_r2
    have fI_r2 := a1.1.tr (W := fwI_X12_readsHand) (by decide) (Eqo.refl fwI_X12_readsHand I0_j14)
    have fM_r2 := a1.2.tr (W := fwM_X12_readsHand) (by decide) (Eqo.refl fwM_X12_readsHand M0_j14)
    obtain ⟨r3, e_r3, h⟩ := wb_b h
    have a2 := fr_fX12_number e_r3
    have fI_r3 := a2.1.tr (W := fwI_X12_readsHand) (by decide) fI_r2
    have fM_r3 := a2.2.tr (W := fwM_X12_readsHand) (by decide) fM_r2
    obtain ⟨v4, -, h⟩ := wb_v h
    obtain ⟨r5, e_r5, h⟩ := wb_b h
    have a3 := fr_fX12_named e_r5
    have fI_r5 := a3.1.tr (W := fwI_X12_readsHand) (by decide) fI_r3
    have fM_r5 := a3.2.tr (W := fwM_X12_readsHand) (by decide) fM_r3
    obtain ⟨v6, -, h⟩ := wb_v h
    obtain ⟨r7, -, h⟩ := wb_b h
    rcases fr_i h with h | h
    · have h := Option.some.inj h
      subst h
      exact ⟨fI_r5, fM_r5⟩
    · obtain ⟨-, h⟩ := wb_n h
      obtain ⟨M0_8, e_M0_8, h⟩ := wb_v h
      have f_M0_8 := Eqo.eq e_M0_8 (Eqo.m (by decide) fM_r5)
      obtain ⟨-, h⟩ := wb_n h
      obtain ⟨M0_9, e_M0_9, h⟩ := wb_v h
      have f_M0_9 := Eqo.eq e_M0_9 (Eqo.m (by decide) f_M0_8)
      obtain ⟨I0_10, e_I0_10, h⟩ := wb_v h
      have f_I0_10 := Eqo.eq e_I0_10 (Eqo.u (by decide) fI_r5)
      have h := Option.some.inj h
      subst h
      exact ⟨f_I0_10, f_M0_9⟩
theorem fr_fX12_readsHand {N : Nat} {I0 : Nat → Int32} {L0 : Int64} {M0 : Nat → Nat → Int32} {R} (h : fX12_readsHand N I0 L0 M0 = some R) : Eqo fwI_X12_readsHand R.1 I0 ∧ Eqo fwM_X12_readsHand R.2.2 M0 := by
  unfold fX12_readsHand at h
  rcases fr_i h with h | h
  · obtain ⟨r11, e_r11, h⟩ := wb_b h
    have a1 := fr_fX12_wrong e_r11
    have fI_r11 := a1.1.tr (W := fwI_X12_readsHand) (by decide) (Eqo.refl fwI_X12_readsHand I0)
    have fM_r11 := a1.2.tr (W := fwM_X12_readsHand) (by decide) (Eqo.refl fwM_X12_readsHand M0)
    have a2 := fr_fX12_readsHand_J14 h
    exact ⟨a2.1.tr (by decide) fI_r11, a2.2.tr (by decide) fM_r11⟩
  · have a3 := fr_fX12_readsHand_J14 h
    exact ⟨a3.1.tr (by decide) (Eqo.refl fwI_X12_readsHand I0), a3.2.tr (by decide) (Eqo.refl fwM_X12_readsHand M0)⟩
abbrev fwI_X12_house : List Nat := [0, 1, 2, 3, 4, 5, 6, 7, 8, 9, 10, 11, 12, 13, 14]
abbrev fwM_X12_house : List Nat := [0, 1, 2, 3, 4, 5, 6, 9, 10, 11, 12, 13, 14, 15]
theorem fr_fX12_house_J203 {N : Nat} {x1 : Int32} {I0_j203 : Nat → Int32} {L0_j203 : Int64} {M0_j203 : Nat → Nat → Int32} {R} (h : fX12_house_J203 N x1 I0_j203 L0_j203 M0_j203 = some R) : Eqo fwI_X12_house R.2.1 I0_j203 ∧ Eqo fwM_X12_house R.2.2.2 M0_j203 := by
  unfold fX12_house_J203 at h
  obtain ⟨r1, -, h⟩ := wb_b h
  rcases fr_i h with h | h
  · have h := Option.some.inj h
    subst h
    exact ⟨(Eqo.refl fwI_X12_house I0_j203), (Eqo.refl fwM_X12_house M0_j203)⟩
  · obtain ⟨I0_2, e_I0_2, h⟩ := wb_v h
    have f_I0_2 := Eqo.eq e_I0_2 (Eqo.u (by decide) (Eqo.refl fwI_X12_house I0_j203))
    obtain ⟨I0_3, e_I0_3, h⟩ := wb_v h
    have f_I0_3 := Eqo.eq e_I0_3 (Eqo.u (by decide) f_I0_2)
    obtain ⟨r4, -, h⟩ := wb_b h
    obtain ⟨M0_5, e_M0_5, h⟩ := wb_v h
    have f_M0_5 := Eqo.eq e_M0_5 (Eqo.mm (by decide) (Eqo.refl fwM_X12_house M0_j203))
    obtain ⟨r6, -, h⟩ := wb_b h
    obtain ⟨M0_7, e_M0_7, h⟩ := wb_v h
    have f_M0_7 := Eqo.eq e_M0_7 (Eqo.mm (by decide) f_M0_5)
    obtain ⟨r8, -, h⟩ := wb_b h
    obtain ⟨M0_9, e_M0_9, h⟩ := wb_v h
    have f_M0_9 := Eqo.eq e_M0_9 (Eqo.mm (by decide) f_M0_7)
    obtain ⟨r10, -, h⟩ := wb_b h
    obtain ⟨M0_11, e_M0_11, h⟩ := wb_v h
    have f_M0_11 := Eqo.eq e_M0_11 (Eqo.mm (by decide) f_M0_9)
    obtain ⟨r12, -, h⟩ := wb_b h
    obtain ⟨M0_13, e_M0_13, h⟩ := wb_v h
    have f_M0_13 := Eqo.eq e_M0_13 (Eqo.mm (by decide) f_M0_11)
    obtain ⟨r14, -, h⟩ := wb_b h
    obtain ⟨M0_15, e_M0_15, h⟩ := wb_v h
    have f_M0_15 := Eqo.eq e_M0_15 (Eqo.mm (by decide) f_M0_13)
    obtain ⟨r16, -, h⟩ := wb_b h
    obtain ⟨M0_17, e_M0_17, h⟩ := wb_v h
    have f_M0_17 := Eqo.eq e_M0_17 (Eqo.mm (by decide) f_M0_15)
    have h := Option.some.inj h
    subst h
    exact ⟨f_I0_3, f_M0_17⟩
theorem fr_fX12_house_J183 {N : Nat} {x1 : Int32} {g120 : (Nat → Int32) → Int64 → (Nat → Nat → Int32) → Option (Int32 × (Nat → Int32) × Int64 × (Nat → Nat → Int32))} {I0_j183 : Nat → Int32} {L0_j183 : Int64} {M0_j183 : Nat → Nat → Int32} (hg120 : ∀ q0 q1 q2 R, g120 q0 q1 q2 = some R → Eqo fwI_X12_house R.2.1 q0 ∧ Eqo fwM_X12_house R.2.2.2 q2) {R} (h : fX12_house_J183 N x1 g120 I0_j183 L0_j183 M0_j183 = some R) : Eqo fwI_X12_house R.2.1 I0_j183 ∧ Eqo fwM_X12_house R.2.2.2 M0_j183 := by
  unfold fX12_house_J183 at h
  rcases fr_i h with h | h
  · obtain ⟨r38, e_r38, h⟩ := wb_b h
    have a1 := fr_fX12_need e_r38
    have fI_r38 := a1.1.tr (W := fwI_X12_house) (by decide) (Eqo.refl fwI_X12_house I0_j183)
    have fM_r38 := a1.2.tr (W := fwM_X12_house) (by decide) (Eqo.refl fwM_X12_house M0_j183)
    have a2 := hg120 _ _ _ _ h
    exact ⟨a2.1.tr (by decide) fI_r38, a2.2.tr (by decide) fM_r38⟩
  · obtain ⟨r37, e_r37, h⟩ := wb_b h
    have a3 := fr_fX12_need e_r37
    have fI_r37 := a3.1.tr (W := fwI_X12_house) (by decide) (Eqo.refl fwI_X12_house I0_j183)
    have fM_r37 := a3.2.tr (W := fwM_X12_house) (by decide) (Eqo.refl fwM_X12_house M0_j183)
    have a4 := hg120 _ _ _ _ h
    exact ⟨a4.1.tr (by decide) fI_r37, a4.2.tr (by decide) fM_r37⟩
theorem fr_fX12_house_L120 {N : Nat} {x1 : Int32} : ∀ fu I0_l120 L0_l120 M0_l120 R, fX12_house_L120 N x1 fu I0_l120 L0_l120 M0_l120 = some R → Eqo fwI_X12_house R.2.1 I0_l120 ∧ Eqo fwM_X12_house R.2.2.2 M0_l120 := by
  intro fu
  induction fu with
  | zero => intro I0_l120 L0_l120 M0_l120 R h; cases (show none = some R from h)
  | succ fu ih =>
    intro I0_l120 L0_l120 M0_l120 R h
    rw [fX12_house_L120.eq_2] at h
    obtain ⟨r39, -, h⟩ := wb_b h
    rcases fr_i h with h | h
    · have a1 := fr_fX12_house_J203 h
      exact ⟨a1.1.tr (by decide) (Eqo.refl fwI_X12_house I0_l120), a1.2.tr (by decide) (Eqo.refl fwM_X12_house M0_l120)⟩
    · rcases fr_i h with h | h
      · have a2 := fr_fX12_house_J203 h
        exact ⟨a2.1.tr (by decide) (Eqo.refl fwI_X12_house I0_l120), a2.2.tr (by decide) (Eqo.refl fwM_X12_house M0_l120)⟩
      · obtain ⟨r40, -, h⟩ := wb_b h
        rcases fr_i h with h | h
        · obtain ⟨r44, e_r44, h⟩ := wb_b h
          have a3 := fr_fX12_readsSet e_r44
          have fI_r44 := a3.1.tr (W := fwI_X12_house) (by decide) (Eqo.refl fwI_X12_house I0_l120)
          have fM_r44 := a3.2.tr (W := fwM_X12_house) (by decide) (Eqo.refl fwM_X12_house M0_l120)
          have c106 : ∀ q0 q1 q2 R, (fX12_house_L120 N x1 fu q0 q1 q2) = some R → Eqo fwI_X12_house R.2.1 q0 ∧ Eqo fwM_X12_house R.2.2.2 q2 := by
              intro q0 q1 q2 R h
              have a105 := ih _ _ _ _ h
              exact ⟨a105.1.tr (by decide) (Eqo.refl fwI_X12_house q0), a105.2.tr (by decide) (Eqo.refl fwM_X12_house q2)⟩
          have a4 := fr_fX12_house_J183 c106 h
          exact ⟨a4.1.tr (by decide) fI_r44, a4.2.tr (by decide) fM_r44⟩
        · rcases fr_i h with h | h
          · obtain ⟨r43, e_r43, h⟩ := wb_b h
            have a107 := fr_fX12_readsClimate e_r43
            have fI_r43 := a107.1.tr (W := fwI_X12_house) (by decide) (Eqo.refl fwI_X12_house I0_l120)
            have fM_r43 := a107.2.tr (W := fwM_X12_house) (by decide) (Eqo.refl fwM_X12_house M0_l120)
            have c210 : ∀ q0 q1 q2 R, (fX12_house_L120 N x1 fu q0 q1 q2) = some R → Eqo fwI_X12_house R.2.1 q0 ∧ Eqo fwM_X12_house R.2.2.2 q2 := by
                intro q0 q1 q2 R h
                have a209 := ih _ _ _ _ h
                exact ⟨a209.1.tr (by decide) (Eqo.refl fwI_X12_house q0), a209.2.tr (by decide) (Eqo.refl fwM_X12_house q2)⟩
            have a108 := fr_fX12_house_J183 c210 h
            exact ⟨a108.1.tr (by decide) fI_r43, a108.2.tr (by decide) fM_r43⟩
          · rcases fr_i h with h | h
            · obtain ⟨r42, e_r42, h⟩ := wb_b h
              have a211 := fr_fX12_readsHand e_r42
              have fI_r42 := a211.1.tr (W := fwI_X12_house) (by decide) (Eqo.refl fwI_X12_house I0_l120)
              have fM_r42 := a211.2.tr (W := fwM_X12_house) (by decide) (Eqo.refl fwM_X12_house M0_l120)
              have c314 : ∀ q0 q1 q2 R, (fX12_house_L120 N x1 fu q0 q1 q2) = some R → Eqo fwI_X12_house R.2.1 q0 ∧ Eqo fwM_X12_house R.2.2.2 q2 := by
                  intro q0 q1 q2 R h
                  have a313 := ih _ _ _ _ h
                  exact ⟨a313.1.tr (by decide) (Eqo.refl fwI_X12_house q0), a313.2.tr (by decide) (Eqo.refl fwM_X12_house q2)⟩
              have a212 := fr_fX12_house_J183 c314 h
              exact ⟨a212.1.tr (by decide) fI_r42, a212.2.tr (by decide) fM_r42⟩
            · obtain ⟨r41, e_r41, h⟩ := wb_b h
              have a315 := fr_fX12_wrong e_r41
              have fI_r41 := a315.1.tr (W := fwI_X12_house) (by decide) (Eqo.refl fwI_X12_house I0_l120)
              have fM_r41 := a315.2.tr (W := fwM_X12_house) (by decide) (Eqo.refl fwM_X12_house M0_l120)
              have c418 : ∀ q0 q1 q2 R, (fX12_house_L120 N x1 fu q0 q1 q2) = some R → Eqo fwI_X12_house R.2.1 q0 ∧ Eqo fwM_X12_house R.2.2.2 q2 := by
                  intro q0 q1 q2 R h
                  have a417 := ih _ _ _ _ h
                  exact ⟨a417.1.tr (by decide) (Eqo.refl fwI_X12_house q0), a417.2.tr (by decide) (Eqo.refl fwM_X12_house q2)⟩
              have a316 := fr_fX12_house_J183 c418 h
              exact ⟨a316.1.tr (by decide) fI_r41, a316.2.tr (by decide) fM_r41⟩
theorem fr_fX12_house {N : Nat} {I0 : Nat → Int32} {L0 : Int64} {M0 : Nat → Nat → Int32} {x1 : Int32} {R} (h : fX12_house N I0 L0 M0 x1 = some R) : Eqo fwI_X12_house R.2.1 I0 ∧ Eqo fwM_X12_house R.2.2.2 M0 := by
  unfold fX12_house at h
  obtain ⟨I0_18, e_I0_18, h⟩ := wb_v h
  have f_I0_18 := Eqo.eq e_I0_18 (Eqo.u (by decide) (Eqo.refl fwI_X12_house I0))
  obtain ⟨I0_19, e_I0_19, h⟩ := wb_v h
  have f_I0_19 := Eqo.eq e_I0_19 (Eqo.u (by decide) f_I0_18)
  obtain ⟨r20, e_r20, h⟩ := wb_b h
  have a1 := fr_fX12_begins e_r20
  have fI_r20 := a1.1.tr (W := fwI_X12_house) (by decide) f_I0_19
  have fM_r20 := a1.2.tr (W := fwM_X12_house) (by decide) (Eqo.refl fwM_X12_house M0)
  rcases fr_i h with h | h
  · have h := Option.some.inj h
    subst h
    exact ⟨fI_r20, fM_r20⟩
  · obtain ⟨I0_21, e_I0_21, h⟩ := wb_v h
    have f_I0_21 := Eqo.eq e_I0_21 (Eqo.u (by decide) fI_r20)
    obtain ⟨I0_22, e_I0_22, h⟩ := wb_v h
    have f_I0_22 := Eqo.eq e_I0_22 (Eqo.u (by decide) f_I0_21)
    obtain ⟨r23, -, h⟩ := wb_b h
    obtain ⟨M0_24, e_M0_24, h⟩ := wb_v h
    have f_M0_24 := Eqo.eq e_M0_24 (Eqo.mm (by decide) fM_r20)
    obtain ⟨r25, -, h⟩ := wb_b h
    obtain ⟨M0_26, e_M0_26, h⟩ := wb_v h
    have f_M0_26 := Eqo.eq e_M0_26 (Eqo.mm (by decide) f_M0_24)
    obtain ⟨r27, -, h⟩ := wb_b h
    obtain ⟨M0_28, e_M0_28, h⟩ := wb_v h
    have f_M0_28 := Eqo.eq e_M0_28 (Eqo.mm (by decide) f_M0_26)
    obtain ⟨r29, -, h⟩ := wb_b h
    obtain ⟨M0_30, e_M0_30, h⟩ := wb_v h
    have f_M0_30 := Eqo.eq e_M0_30 (Eqo.mm (by decide) f_M0_28)
    obtain ⟨r31, -, h⟩ := wb_b h
    obtain ⟨M0_32, e_M0_32, h⟩ := wb_v h
    have f_M0_32 := Eqo.eq e_M0_32 (Eqo.mm (by decide) f_M0_30)
    obtain ⟨r33, -, h⟩ := wb_b h
    obtain ⟨M0_34, e_M0_34, h⟩ := wb_v h
    have f_M0_34 := Eqo.eq e_M0_34 (Eqo.mm (by decide) f_M0_32)
    obtain ⟨r35, -, h⟩ := wb_b h
    obtain ⟨M0_36, e_M0_36, h⟩ := wb_v h
    have f_M0_36 := Eqo.eq e_M0_36 (Eqo.mm (by decide) f_M0_34)
    have a2 := fr_fX12_house_L120 _ _ _ _ _ h
    exact ⟨a2.1.tr (by decide) f_I0_22, a2.2.tr (by decide) f_M0_36⟩
abbrev fwI_X12_isBook : List Nat := [0]
abbrev fwM_X12_isBook : List Nat := []
theorem fr_fX12_isBook {N : Nat} {I0 : Nat → Int32} {L0 : Int64} {M0 : Nat → Nat → Int32} {x1 : Int32} {R} (h : fX12_isBook N I0 L0 M0 x1 = some R) : Eqo fwI_X12_isBook R.2.1 I0 ∧ Eqo fwM_X12_isBook R.2.2.2 M0 := by
  unfold fX12_isBook at h
  rcases fr_i h with h | h
  · obtain ⟨r1, e_r1, h⟩ := wb_b h
    have a1 := fr_fX12_right e_r1
    have fI_r1 := a1.1.tr (W := fwI_X12_isBook) (by decide) (Eqo.refl fwI_X12_isBook I0)
    have fM_r1 := a1.2.tr (W := fwM_X12_isBook) (by decide) (Eqo.refl fwM_X12_isBook M0)
    rcases fr_i h with h | h
    · have h := Option.some.inj h
      subst h
      exact ⟨fI_r1, fM_r1⟩
    · cases h
  · rcases fr_i h with h | h
    · obtain ⟨r2, e_r2, h⟩ := wb_b h
      have a2 := fr_fX12_right e_r2
      have fI_r2 := a2.1.tr (W := fwI_X12_isBook) (by decide) (Eqo.refl fwI_X12_isBook I0)
      have fM_r2 := a2.2.tr (W := fwM_X12_isBook) (by decide) (Eqo.refl fwM_X12_isBook M0)
      rcases fr_i h with h | h
      · have h := Option.some.inj h
        subst h
        exact ⟨fI_r2, fM_r2⟩
      · cases h
    · obtain ⟨r3, e_r3, h⟩ := wb_b h
      have a3 := fr_fX12_right e_r3
      have fI_r3 := a3.1.tr (W := fwI_X12_isBook) (by decide) (Eqo.refl fwI_X12_isBook I0)
      have fM_r3 := a3.2.tr (W := fwM_X12_isBook) (by decide) (Eqo.refl fwM_X12_isBook M0)
      rcases fr_i h with h | h
      · have h := Option.some.inj h
        subst h
        exact ⟨fI_r3, fM_r3⟩
      · cases h
abbrev fwI_X12_isWheel : List Nat := [0]
abbrev fwM_X12_isWheel : List Nat := []
theorem fr_fX12_isWheel {N : Nat} {I0 : Nat → Int32} {L0 : Int64} {M0 : Nat → Nat → Int32} {x1 : Int32} {x2 : Int32} {R} (h : fX12_isWheel N I0 L0 M0 x1 x2 = some R) : Eqo fwI_X12_isWheel R.2.1 I0 ∧ Eqo fwM_X12_isWheel R.2.2.2 M0 := by
  unfold fX12_isWheel at h
  obtain ⟨I0_1, e_I0_1, h⟩ := wb_v h
  have f_I0_1 := Eqo.eq e_I0_1 (Eqo.u (by decide) (Eqo.refl fwI_X12_isWheel I0))
  rcases fr_i h with h | h
  · obtain ⟨r2, e_r2, h⟩ := wb_b h
    have a1 := fr_fX12_right e_r2
    have fI_r2 := a1.1.tr (W := fwI_X12_isWheel) (by decide) f_I0_1
    have fM_r2 := a1.2.tr (W := fwM_X12_isWheel) (by decide) (Eqo.refl fwM_X12_isWheel M0)
    rcases fr_i h with h | h
    · have h := Option.some.inj h
      subst h
      exact ⟨fI_r2, fM_r2⟩
    · cases h
  · rcases fr_i h with h | h
    · obtain ⟨r3, e_r3, h⟩ := wb_b h
      have a2 := fr_fX12_right e_r3
      have fI_r3 := a2.1.tr (W := fwI_X12_isWheel) (by decide) f_I0_1
      have fM_r3 := a2.2.tr (W := fwM_X12_isWheel) (by decide) (Eqo.refl fwM_X12_isWheel M0)
      rcases fr_i h with h | h
      · have h := Option.some.inj h
        subst h
        exact ⟨fI_r3, fM_r3⟩
      · cases h
    · rcases fr_i h with h | h
      · obtain ⟨r4, e_r4, h⟩ := wb_b h
        have a3 := fr_fX12_right e_r4
        have fI_r4 := a3.1.tr (W := fwI_X12_isWheel) (by decide) f_I0_1
        have fM_r4 := a3.2.tr (W := fwM_X12_isWheel) (by decide) (Eqo.refl fwM_X12_isWheel M0)
        rcases fr_i h with h | h
        · have h := Option.some.inj h
          subst h
          exact ⟨fI_r4, fM_r4⟩
        · cases h
      · rcases fr_i h with h | h
        · obtain ⟨r5, e_r5, h⟩ := wb_b h
          have a4 := fr_fX12_right e_r5
          have fI_r5 := a4.1.tr (W := fwI_X12_isWheel) (by decide) f_I0_1
          have fM_r5 := a4.2.tr (W := fwM_X12_isWheel) (by decide) (Eqo.refl fwM_X12_isWheel M0)
          rcases fr_i h with h | h
          · have h := Option.some.inj h
            subst h
            exact ⟨fI_r5, fM_r5⟩
          · cases h
        · obtain ⟨r6, e_r6, h⟩ := wb_b h
          have a5 := fr_fX12_right e_r6
          have fI_r6 := a5.1.tr (W := fwI_X12_isWheel) (by decide) f_I0_1
          have fM_r6 := a5.2.tr (W := fwM_X12_isWheel) (by decide) (Eqo.refl fwM_X12_isWheel M0)
          rcases fr_i h with h | h
          · have h := Option.some.inj h
            subst h
            exact ⟨fI_r6, fM_r6⟩
          · cases h
abbrev fwI_X12_readsEntry : List Nat := [4, 5, 7, 8, 9, 10, 11]
abbrev fwM_X12_readsEntry : List Nat := [16]
theorem fr_fX12_readsEntry_J193 {N : Nat} {I0_j193 : Nat → Int32} {L0_j193 : Int64} {M0_j193 : Nat → Nat → Int32} {R} (h : fX12_readsEntry_J193 N I0_j193 L0_j193 M0_j193 = some R) : Eqo fwI_X12_readsEntry R.1 I0_j193 ∧ Eqo fwM_X12_readsEntry R.2.2 M0_j193 := by
  unfold fX12_readsEntry_J193 at h
  rcases fr_i h with h | h
  · obtain ⟨r2, e_r2, h⟩ := wb_b h
    have a1 := fr_fX12_need e_r2
    have fI_r2 := a1.1.tr (W := fwI_X12_readsEntry) (by decide) (Eqo.refl fwI_X12_readsEntry I0_j193)
    have fM_r2 := a1.2.tr (W := fwM_X12_readsEntry) (by decide) (Eqo.refl fwM_X12_readsEntry M0_j193)
    have h := Option.some.inj h
    subst h
    exact ⟨fI_r2, fM_r2⟩
  · obtain ⟨r1, e_r1, h⟩ := wb_b h
    have a2 := fr_fX12_need e_r1
    have fI_r1 := a2.1.tr (W := fwI_X12_readsEntry) (by decide) (Eqo.refl fwI_X12_readsEntry I0_j193)
    have fM_r1 := a2.2.tr (W := fwM_X12_readsEntry) (by decide) (Eqo.refl fwM_X12_readsEntry M0_j193)
    have h := Option.some.inj h
    subst h
    exact ⟨fI_r1, fM_r1⟩
theorem fr_fX12_readsEntry_J168 {N : Nat} {I0_j168 : Nat → Int32} {L0_j168 : Int64} {M0_j168 : Nat → Nat → Int32} {y168_2 : Int32} {y168_3 : Int32} {z168_0 : Int32} {z168_1 : Int32} {R} (h : fX12_readsEntry_J168 N I0_j168 L0_j168 M0_j168 y168_2 y168_3 z168_0 z168_1 = some R) : Eqo fwI_X12_readsEntry R.1 I0_j168 ∧ Eqo fwM_X12_readsEntry R.2.2 M0_j168 := by
  unfold fX12_readsEntry_J168 at h
  obtain ⟨r3, e_r3, h⟩ := wb_b h
  have a1 := fr_fX12_number e_r3
  have fI_r3 := a1.1.tr (W := fwI_X12_readsEntry) (by decide) (Eqo.refl fwI_X12_readsEntry I0_j168)
  have fM_r3 := a1.2.tr (W := fwM_X12_readsEntry) (by decide) (Eqo.refl fwM_X12_readsEntry M0_j168)
  obtain ⟨v4, -, h⟩ := wb_v h
  obtain ⟨r5, -, h⟩ := wb_b h
  rcases fr_i h with h | h
  · have a2 := fr_fX12_readsEntry_J193 h
    exact ⟨a2.1.tr (by decide) fI_r3, a2.2.tr (by decide) fM_r3⟩
  · obtain ⟨-, h⟩ := wb_n h
    obtain ⟨M0_6, e_M0_6, h⟩ := wb_v h
    have f_M0_6 := Eqo.eq e_M0_6 (Eqo.m (by decide) fM_r3)
    have a3 := fr_fX12_readsEntry_J193 h
    exact ⟨a3.1.tr (by decide) fI_r3, a3.2.tr (by decide) f_M0_6⟩
theorem fr_fX12_readsEntry_J166 {N : Nat} {I0_j166 : Nat → Int32} {L0_j166 : Int64} {M0_j166 : Nat → Nat → Int32} {y166_2 : Int32} {y166_3 : Int32} {z166_0 : Int32} {R} (h : fX12_readsEntry_J166 N I0_j166 L0_j166 M0_j166 y166_2 y166_3 z166_0 = some R) : Eqo fwI_X12_readsEntry R.1 I0_j166 ∧ Eqo fwM_X12_readsEntry R.2.2 M0_j166 := by
  unfold fX12_readsEntry_J166 at h
  have a1 := fr_fX12_readsEntry_J168 h
  exact ⟨a1.1.tr (by decide) (Eqo.refl fwI_X12_readsEntry I0_j166), a1.2.tr (by decide) (Eqo.refl fwM_X12_readsEntry M0_j166)⟩
theorem fr_fX12_readsEntry_J144 {N : Nat} {I0_j144 : Nat → Int32} {L0_j144 : Int64} {M0_j144 : Nat → Nat → Int32} {y144_1 : Int32} {y144_2 : Int32} {z144_0 : Int32} {z144_1 : Int32} {R} (h : fX12_readsEntry_J144 N I0_j144 L0_j144 M0_j144 y144_1 y144_2 z144_0 z144_1 = some R) : Eqo fwI_X12_readsEntry R.1 I0_j144 ∧ Eqo fwM_X12_readsEntry R.2.2 M0_j144 := by
  unfold fX12_readsEntry_J144 at h
  obtain ⟨r7, e_r7, h⟩ := wb_b h
  have a1 := fr_fX12_number e_r7
  have fI_r7 := a1.1.tr (W := fwI_X12_readsEntry) (by decide) (Eqo.refl fwI_X12_readsEntry I0_j144)
  have fM_r7 := a1.2.tr (W := fwM_X12_readsEntry) (by decide) (Eqo.refl fwM_X12_readsEntry M0_j144)
  obtain ⟨v8, -, h⟩ := wb_v h
  rcases fr_i h with h | h
  · rcases fr_i h with h | h
    · have a2 := fr_fX12_readsEntry_J168 h
      exact ⟨a2.1.tr (by decide) fI_r7, a2.2.tr (by decide) fM_r7⟩
    · have a3 := fr_fX12_readsEntry_J166 h
      exact ⟨a3.1.tr (by decide) fI_r7, a3.2.tr (by decide) fM_r7⟩
  · have a4 := fr_fX12_readsEntry_J166 h
    exact ⟨a4.1.tr (by decide) fI_r7, a4.2.tr (by decide) fM_r7⟩
theorem fr_fX12_readsEntry_J129 {N : Nat} {I0_j129 : Nat → Int32} {L0_j129 : Int64} {M0_j129 : Nat → Nat → Int32} {y129_1 : Int32} {y129_2 : Int32} {R} (h : fX12_readsEntry_J129 N I0_j129 L0_j129 M0_j129 y129_1 y129_2 = some R) : Eqo fwI_X12_readsEntry R.1 I0_j129 ∧ Eqo fwM_X12_readsEntry R.2.2 M0_j129 := by
  unfold fX12_readsEntry_J129 at h
  rcases fr_i h with h | h
  · have a1 := fr_fX12_readsEntry_J144 h
    exact ⟨a1.1.tr (by decide) (Eqo.refl fwI_X12_readsEntry I0_j129), a1.2.tr (by decide) (Eqo.refl fwM_X12_readsEntry M0_j129)⟩
  · have a2 := fr_fX12_readsEntry_J144 h
    exact ⟨a2.1.tr (by decide) (Eqo.refl fwI_X12_readsEntry I0_j129), a2.2.tr (by decide) (Eqo.refl fwM_X12_readsEntry M0_j129)⟩
theorem fr_fX12_readsEntry_J62 {N : Nat} {I0_j62 : Nat → Int32} {L0_j62 : Int64} {M0_j62 : Nat → Nat → Int32} {y62_1 : Int32} {y62_2 : Int32} {R} (h : fX12_readsEntry_J62 N I0_j62 L0_j62 M0_j62 y62_1 y62_2 = some R) : Eqo fwI_X12_readsEntry R.1 I0_j62 ∧ Eqo fwM_X12_readsEntry R.2.2 M0_j62 := by
  unfold fX12_readsEntry_J62 at h
  obtain ⟨r9b, -, h⟩ := wb_b h
  rcases fr_i h with h | h
  · have h := Option.some.inj h
    subst h
    exact ⟨(Eqo.refl fwI_X12_readsEntry I0_j62), (Eqo.refl fwM_X12_readsEntry M0_j62)⟩
  · obtain ⟨r10, e_r10, h⟩ := wb_b h
    have a1 := fr_fX12_steps e_r10
    have fI_r10 := a1.1.tr (W := fwI_X12_readsEntry) (by decide) (Eqo.refl fwI_X12_readsEntry I0_j62)
    have fM_r10 := a1.2.tr (W := fwM_X12_readsEntry) (by decide) (Eqo.refl fwM_X12_readsEntry M0_j62)
    rcases fr_i h with h | h
    · obtain ⟨v11, -, h⟩ := wb_v h
      obtain ⟨r12, e_r12, h⟩ := wb_b h
      have a2 := fr_fX12_number e_r12
      have fI_r12 := a2.1.tr (W := fwI_X12_readsEntry) (by decide) fI_r10
      have fM_r12 := a2.2.tr (W := fwM_X12_readsEntry) (by decide) fM_r10
      obtain ⟨v13, -, h⟩ := wb_v h
      obtain ⟨v14, -, h⟩ := wb_v h
      obtain ⟨r15, -, h⟩ := wb_b h
      rcases fr_i h with h | h
      · have a3 := fr_fX12_readsEntry_J129 h
        exact ⟨a3.1.tr (by decide) fI_r12, a3.2.tr (by decide) fM_r12⟩
      · obtain ⟨-, h⟩ := wb_n h
        rcases fr_i h with h | h
        · have a4 := fr_fX12_readsEntry_J129 h
          exact ⟨a4.1.tr (by decide) fI_r12, a4.2.tr (by decide) fM_r12⟩
        · obtain ⟨I0_16, e_I0_16, h⟩ := wb_v h
          have f_I0_16 := Eqo.eq e_I0_16 (Eqo.u (by decide) fI_r12)
          obtain ⟨I0_17, e_I0_17, h⟩ := wb_v h
          have f_I0_17 := Eqo.eq e_I0_17 (Eqo.u (by decide) f_I0_16)
          have a5 := fr_fX12_readsEntry_J129 h
          exact ⟨a5.1.tr (by decide) f_I0_17, a5.2.tr (by decide) fM_r12⟩
    · have a6 := fr_fX12_readsEntry_J129 h
      exact ⟨a6.1.tr (by decide) fI_r10, a6.2.tr (by decide) fM_r10⟩
theorem fr_fX12_readsEntry_J40 {N : Nat} {I0_j40 : Nat → Int32} {L0_j40 : Int64} {M0_j40 : Nat → Nat → Int32} {y40_1 : Int32} {z40_0 : Int32} {R} (h : fX12_readsEntry_J40 N I0_j40 L0_j40 M0_j40 y40_1 z40_0 = some R) : Eqo fwI_X12_readsEntry R.1 I0_j40 ∧ Eqo fwM_X12_readsEntry R.2.2 M0_j40 := by
  unfold fX12_readsEntry_J40 at h
  rcases fr_i h with h | h
  · have a1 := fr_fX12_readsEntry_J62 h
    exact ⟨a1.1.tr (by decide) (Eqo.refl fwI_X12_readsEntry I0_j40), a1.2.tr (by decide) (Eqo.refl fwM_X12_readsEntry M0_j40)⟩
  · obtain ⟨-, h⟩ := wb_n h
    rcases fr_i h with h | h
    · have a2 := fr_fX12_readsEntry_J62 h
      exact ⟨a2.1.tr (by decide) (Eqo.refl fwI_X12_readsEntry I0_j40), a2.2.tr (by decide) (Eqo.refl fwM_X12_readsEntry M0_j40)⟩
    · obtain ⟨r18, e_r18, h⟩ := wb_b h
      have a3 := fr_fX12_wrong e_r18
      have fI_r18 := a3.1.tr (W := fwI_X12_readsEntry) (by decide) (Eqo.refl fwI_X12_readsEntry I0_j40)
      have fM_r18 := a3.2.tr (W := fwM_X12_readsEntry) (by decide) (Eqo.refl fwM_X12_readsEntry M0_j40)
      have a4 := fr_fX12_readsEntry_J62 h
      exact ⟨a4.1.tr (by decide) fI_r18, a4.2.tr (by decide) fM_r18⟩
theorem fr_fX12_readsEntry_J20 {N : Nat} {I0_j20 : Nat → Int32} {L0_j20 : Int64} {M0_j20 : Nat → Nat → Int32} {y20_1 : Int32} {R} (h : fX12_readsEntry_J20 N I0_j20 L0_j20 M0_j20 y20_1 = some R) : Eqo fwI_X12_readsEntry R.1 I0_j20 ∧ Eqo fwM_X12_readsEntry R.2.2 M0_j20 := by
  unfold fX12_readsEntry_J20 at h
  obtain ⟨r19, -, h⟩ := wb_b h
  rcases fr_i h with h | h
  · have h := Option.some.inj h
    subst h
    exact ⟨(Eqo.refl fwI_X12_readsEntry I0_j20), (Eqo.refl fwM_X12_readsEntry M0_j20)⟩
  · rcases fr_i h with h | h
    · have a1 := fr_fX12_readsEntry_J40 h
      exact ⟨a1.1.tr (by decide) (Eqo.refl fwI_X12_readsEntry I0_j20), a1.2.tr (by decide) (Eqo.refl fwM_X12_readsEntry M0_j20)⟩
    · have a2 := fr_fX12_readsEntry_J40 h
      exact ⟨a2.1.tr (by decide) (Eqo.refl fwI_X12_readsEntry I0_j20), a2.2.tr (by decide) (Eqo.refl fwM_X12_readsEntry M0_j20)⟩
theorem fr_fX12_readsEntry_J15 {N : Nat} {I0_j15 : Nat → Int32} {L0_j15 : Int64} {M0_j15 : Nat → Nat → Int32} {y15_1 : Int32} {R} (h : fX12_readsEntry_J15 N I0_j15 L0_j15 M0_j15 y15_1 = some R) : Eqo fwI_X12_readsEntry R.1 I0_j15 ∧ Eqo fwM_X12_readsEntry R.2.2 M0_j15 := by
  unfold fX12_readsEntry_J15 at h
  obtain ⟨r20, e_r20, h⟩ := wb_b h
  have a1 := fr_fX12_wrong e_r20
  have fI_r20 := a1.1.tr (W := fwI_X12_readsEntry) (by decide) (Eqo.refl fwI_X12_readsEntry I0_j15)
  have fM_r20 := a1.2.tr (W := fwM_X12_readsEntry) (by decide) (Eqo.refl fwM_X12_readsEntry M0_j15)
  have a2 := fr_fX12_readsEntry_J20 h
  exact ⟨a2.1.tr (by decide) fI_r20, a2.2.tr (by decide) fM_r20⟩
theorem fr_fX12_readsEntry {N : Nat} {I0 : Nat → Int32} {L0 : Int64} {M0 : Nat → Nat → Int32} {R} (h : fX12_readsEntry N I0 L0 M0 = some R) : Eqo fwI_X12_readsEntry R.1 I0 ∧ Eqo fwM_X12_readsEntry R.2.2 M0 := by
  unfold fX12_readsEntry at h
  obtain ⟨r21, -, h⟩ := wb_b h
  rcases fr_i h with h | h
  · have a1 := fr_fX12_readsEntry_J15 h
    exact ⟨a1.1.tr (by decide) (Eqo.refl fwI_X12_readsEntry I0), a1.2.tr (by decide) (Eqo.refl fwM_X12_readsEntry M0)⟩
  · rcases fr_i h with h | h
    · have a2 := fr_fX12_readsEntry_J20 h
      exact ⟨a2.1.tr (by decide) (Eqo.refl fwI_X12_readsEntry I0), a2.2.tr (by decide) (Eqo.refl fwM_X12_readsEntry M0)⟩
    · have a3 := fr_fX12_readsEntry_J15 h
      exact ⟨a3.1.tr (by decide) (Eqo.refl fwI_X12_readsEntry I0), a3.2.tr (by decide) (Eqo.refl fwM_X12_readsEntry M0)⟩
abbrev fwI_X12_wheel : List Nat := [0, 3, 4, 5, 6, 7, 8, 9, 10, 11, 12]
abbrev fwM_X12_wheel : List Nat := [7, 16]
theorem fr_fX12_wheel_L86 {N : Nat} {x1 : Int32} {x2 : Int32} {x3 : Int32} : ∀ fu I0_l86 L0_l86 M0_l86 y86_4 R, fX12_wheel_L86 N x1 x2 x3 fu I0_l86 L0_l86 M0_l86 y86_4 = some R → Eqo fwI_X12_wheel R.2.1 I0_l86 ∧ Eqo fwM_X12_wheel R.2.2.2 M0_l86 := by
  intro fu
  induction fu with
  | zero => intro I0_l86 L0_l86 M0_l86 y86_4 R h; cases (show none = some R from h)
  | succ fu ih =>
    intro I0_l86 L0_l86 M0_l86 y86_4 R h
    rw [fX12_wheel_L86.eq_2] at h
    rcases fr_i h with h | h
    · have h := Option.some.inj h
      subst h
      exact ⟨(Eqo.refl fwI_X12_wheel I0_l86), (Eqo.refl fwM_X12_wheel M0_l86)⟩
    · obtain ⟨-, h⟩ := wb_n h
      obtain ⟨-, h⟩ := wb_n h
      obtain ⟨M0_2, e_M0_2, h⟩ := wb_v h
      have f_M0_2 := Eqo.eq e_M0_2 (Eqo.m (by decide) (Eqo.refl fwM_X12_wheel M0_l86))
      obtain ⟨v3, -, h⟩ := wb_v h
      have a1 := ih _ _ _ _ _ h
      exact ⟨a1.1.tr (by decide) (Eqo.refl fwI_X12_wheel I0_l86), a1.2.tr (by decide) f_M0_2⟩
theorem fr_fX12_wheel_J71 {N : Nat} {x1 : Int32} {x2 : Int32} {x3 : Int32} {I0_j71 : Nat → Int32} {L0_j71 : Int64} {M0_j71 : Nat → Nat → Int32} {R} (h : fX12_wheel_J71 N x1 x2 x3 I0_j71 L0_j71 M0_j71 = some R) : Eqo fwI_X12_wheel R.2.1 I0_j71 ∧ Eqo fwM_X12_wheel R.2.2.2 M0_j71 := by
  unfold fX12_wheel_J71 at h
  obtain ⟨r1, -, h⟩ := wb_b h
  rcases fr_i h with h | h
  · have h := Option.some.inj h
    subst h
    exact ⟨(Eqo.refl fwI_X12_wheel I0_j71), (Eqo.refl fwM_X12_wheel M0_j71)⟩
  · have a1 := fr_fX12_wheel_L86 _ _ _ _ _ _ h
    exact ⟨a1.1.tr (by decide) (Eqo.refl fwI_X12_wheel I0_j71), a1.2.tr (by decide) (Eqo.refl fwM_X12_wheel M0_j71)⟩
theorem fr_fX12_wheel_L50 {N : Nat} {x1 : Int32} {x2 : Int32} {x3 : Int32} {g29 : (Nat → Int32) → Int64 → (Nat → Nat → Int32) → Int32 → Option (Int32 × (Nat → Int32) × Int64 × (Nat → Nat → Int32))} (hg29 : ∀ q0 q1 q2 q3 R, g29 q0 q1 q2 q3 = some R → Eqo fwI_X12_wheel R.2.1 q0 ∧ Eqo fwM_X12_wheel R.2.2.2 q2) : ∀ fu I0_l50 L0_l50 M0_l50 R, fX12_wheel_L50 N x1 x2 x3 g29 fu I0_l50 L0_l50 M0_l50 = some R → Eqo fwI_X12_wheel R.2.1 I0_l50 ∧ Eqo fwM_X12_wheel R.2.2.2 M0_l50 := by
  intro fu
  induction fu with
  | zero => intro I0_l50 L0_l50 M0_l50 R h; cases (show none = some R from h)
  | succ fu ih =>
    intro I0_l50 L0_l50 M0_l50 R h
    rw [fX12_wheel_L50.eq_2] at h
    obtain ⟨r7, -, h⟩ := wb_b h
    rcases fr_i h with h | h
    · have a1 := fr_fX12_wheel_J71 h
      exact ⟨a1.1.tr (by decide) (Eqo.refl fwI_X12_wheel I0_l50), a1.2.tr (by decide) (Eqo.refl fwM_X12_wheel M0_l50)⟩
    · rcases fr_i h with h | h
      · have a2 := fr_fX12_wheel_J71 h
        exact ⟨a2.1.tr (by decide) (Eqo.refl fwI_X12_wheel I0_l50), a2.2.tr (by decide) (Eqo.refl fwM_X12_wheel M0_l50)⟩
      · obtain ⟨r8, e_r8, h⟩ := wb_b h
        have a3 := fr_fX12_readsEntry e_r8
        have fI_r8 := a3.1.tr (W := fwI_X12_wheel) (by decide) (Eqo.refl fwI_X12_wheel I0_l50)
        have fM_r8 := a3.2.tr (W := fwM_X12_wheel) (by decide) (Eqo.refl fwM_X12_wheel M0_l50)
        have a4 := ih _ _ _ _ h
        exact ⟨a4.1.tr (by decide) fI_r8, a4.2.tr (by decide) fM_r8⟩
theorem fr_fX12_wheel_L29 {N : Nat} {x1 : Int32} {x2 : Int32} {x3 : Int32} : ∀ fu I0_l29 L0_l29 M0_l29 y29_4 R, fX12_wheel_L29 N x1 x2 x3 fu I0_l29 L0_l29 M0_l29 y29_4 = some R → Eqo fwI_X12_wheel R.2.1 I0_l29 ∧ Eqo fwM_X12_wheel R.2.2.2 M0_l29 := by
  intro fu
  induction fu with
  | zero => intro I0_l29 L0_l29 M0_l29 y29_4 R h; cases (show none = some R from h)
  | succ fu ih =>
    intro I0_l29 L0_l29 M0_l29 y29_4 R h
    rw [fX12_wheel_L29.eq_2] at h
    rcases fr_i h with h | h
    · have c103 : ∀ q0 q1 q2 q3 R, (fX12_wheel_L29 N x1 x2 x3 fu q0 q1 q2 q3) = some R → Eqo fwI_X12_wheel R.2.1 q0 ∧ Eqo fwM_X12_wheel R.2.2.2 q2 := by
          intro q0 q1 q2 q3 R h
          have a102 := ih _ _ _ _ _ h
          exact ⟨a102.1.tr (by decide) (Eqo.refl fwI_X12_wheel q0), a102.2.tr (by decide) (Eqo.refl fwM_X12_wheel q2)⟩
      have a1 := fr_fX12_wheel_L50 c103 _ _ _ _ _ h
      exact ⟨a1.1.tr (by decide) (Eqo.refl fwI_X12_wheel I0_l29), a1.2.tr (by decide) (Eqo.refl fwM_X12_wheel M0_l29)⟩
    · obtain ⟨-, h⟩ := wb_n h
      obtain ⟨M0_9, e_M0_9, h⟩ := wb_v h
      have f_M0_9 := Eqo.eq e_M0_9 (Eqo.m (by decide) (Eqo.refl fwM_X12_wheel M0_l29))
      obtain ⟨v10, -, h⟩ := wb_v h
      have a104 := ih _ _ _ _ _ h
      exact ⟨a104.1.tr (by decide) (Eqo.refl fwI_X12_wheel I0_l29), a104.2.tr (by decide) f_M0_9⟩
theorem fr_fX12_wheel {N : Nat} {I0 : Nat → Int32} {L0 : Int64} {M0 : Nat → Nat → Int32} {x1 : Int32} {x2 : Int32} {x3 : Int32} {R} (h : fX12_wheel N I0 L0 M0 x1 x2 x3 = some R) : Eqo fwI_X12_wheel R.2.1 I0 ∧ Eqo fwM_X12_wheel R.2.2.2 M0 := by
  unfold fX12_wheel at h
  obtain ⟨r4, e_r4, h⟩ := wb_b h
  have a1 := fr_fX12_isWheel e_r4
  have fI_r4 := a1.1.tr (W := fwI_X12_wheel) (by decide) (Eqo.refl fwI_X12_wheel I0)
  have fM_r4 := a1.2.tr (W := fwM_X12_wheel) (by decide) (Eqo.refl fwM_X12_wheel M0)
  rcases fr_i h with h | h
  · have h := Option.some.inj h
    subst h
    exact ⟨fI_r4, fM_r4⟩
  · obtain ⟨I0_5, e_I0_5, h⟩ := wb_v h
    have f_I0_5 := Eqo.eq e_I0_5 (Eqo.u (by decide) fI_r4)
    obtain ⟨r6, e_r6, h⟩ := wb_b h
    have a2 := fr_fX12_begins e_r6
    have fI_r6 := a2.1.tr (W := fwI_X12_wheel) (by decide) f_I0_5
    have fM_r6 := a2.2.tr (W := fwM_X12_wheel) (by decide) fM_r4
    rcases fr_i h with h | h
    · have h := Option.some.inj h
      subst h
      exact ⟨fI_r6, fM_r6⟩
    · have a3 := fr_fX12_wheel_L29 _ _ _ _ _ _ h
      exact ⟨a3.1.tr (by decide) fI_r6, a3.2.tr (by decide) fM_r6⟩
abbrev fwI_X12_fault : List Nat := [0]
abbrev fwM_X12_fault : List Nat := []
theorem fr_fX12_fault {N : Nat} {I0 : Nat → Int32} {L0 : Int64} {M0 : Nat → Nat → Int32} {R} (h : fX12_fault N I0 L0 M0 = some R) : Eqo fwI_X12_fault R.2.1 I0 ∧ Eqo fwM_X12_fault R.2.2.2 M0 := by
  unfold fX12_fault at h
  obtain ⟨I0_1, e_I0_1, h⟩ := wb_v h
  have f_I0_1 := Eqo.eq e_I0_1 (Eqo.u (by decide) (Eqo.refl fwI_X12_fault I0))
  have h := Option.some.inj h
  subst h
  exact ⟨f_I0_1, (Eqo.refl fwM_X12_fault M0)⟩
abbrev fwI_X12_place : List Nat := [0]
abbrev fwM_X12_place : List Nat := []
theorem fr_fX12_place_J40 {N : Nat} {x1 : Int32} {x2 : Int32} {x3 : Int32} {I0_j40 : Nat → Int32} {L0_j40 : Int64} {M0_j40 : Nat → Nat → Int32} {z40_0 : Int32} {R} (h : fX12_place_J40 N x1 x2 x3 I0_j40 L0_j40 M0_j40 z40_0 = some R) : Eqo fwI_X12_place R.2.1 I0_j40 ∧ Eqo fwM_X12_place R.2.2.2 M0_j40 := by
  unfold fX12_place_J40 at h
  obtain ⟨r1, e_r1, h⟩ := wb_b h
  have a1 := fr_fX12_right e_r1
  have fI_r1 := a1.1.tr (W := fwI_X12_place) (by decide) (Eqo.refl fwI_X12_place I0_j40)
  have fM_r1 := a1.2.tr (W := fwM_X12_place) (by decide) (Eqo.refl fwM_X12_place M0_j40)
  rcases fr_i h with h | h
  · have h := Option.some.inj h
    subst h
    exact ⟨fI_r1, fM_r1⟩
  · obtain ⟨r2, -, h⟩ := wb_b h
    have h := Option.some.inj h
    subst h
    exact ⟨fI_r1, fM_r1⟩
theorem fr_fX12_place_J39 {N : Nat} {x1 : Int32} {x2 : Int32} {x3 : Int32} {I0_j39 : Nat → Int32} {L0_j39 : Int64} {M0_j39 : Nat → Nat → Int32} {R} (h : fX12_place_J39 N x1 x2 x3 I0_j39 L0_j39 M0_j39 = some R) : Eqo fwI_X12_place R.2.1 I0_j39 ∧ Eqo fwM_X12_place R.2.2.2 M0_j39 := by
  unfold fX12_place_J39 at h
  have a1 := fr_fX12_place_J40 h
  exact ⟨a1.1.tr (by decide) (Eqo.refl fwI_X12_place I0_j39), a1.2.tr (by decide) (Eqo.refl fwM_X12_place M0_j39)⟩
theorem fr_fX12_place {N : Nat} {I0 : Nat → Int32} {L0 : Int64} {M0 : Nat → Nat → Int32} {x1 : Int32} {x2 : Int32} {x3 : Int32} {R} (h : fX12_place N I0 L0 M0 x1 x2 x3 = some R) : Eqo fwI_X12_place R.2.1 I0 ∧ Eqo fwM_X12_place R.2.2.2 M0 := by
  unfold fX12_place at h
  obtain ⟨I0_3, e_I0_3, h⟩ := wb_v h
  have f_I0_3 := Eqo.eq e_I0_3 (Eqo.u (by decide) (Eqo.refl fwI_X12_place I0))
  obtain ⟨r4, -, h⟩ := wb_b h
  rcases fr_i h with h | h
  · have a1 := fr_fX12_place_J39 h
    exact ⟨a1.1.tr (by decide) f_I0_3, a1.2.tr (by decide) (Eqo.refl fwM_X12_place M0)⟩
  · obtain ⟨r5, -, h⟩ := wb_b h
    rcases fr_i h with h | h
    · have a2 := fr_fX12_place_J39 h
      exact ⟨a2.1.tr (by decide) f_I0_3, a2.2.tr (by decide) (Eqo.refl fwM_X12_place M0)⟩
    · obtain ⟨r6, -, h⟩ := wb_b h
      rcases fr_i h with h | h
      · have a3 := fr_fX12_place_J39 h
        exact ⟨a3.1.tr (by decide) f_I0_3, a3.2.tr (by decide) (Eqo.refl fwM_X12_place M0)⟩
      · have a4 := fr_fX12_place_J40 h
        exact ⟨a4.1.tr (by decide) f_I0_3, a4.2.tr (by decide) (Eqo.refl fwM_X12_place M0)⟩
abbrev fwI_X12_entry : List Nat := [0]
abbrev fwM_X12_entry : List Nat := []
theorem fr_fX12_entry {N : Nat} {I0 : Nat → Int32} {L0 : Int64} {M0 : Nat → Nat → Int32} {x1 : Int32} {x2 : Int32} {x3 : Int32} {R} (h : fX12_entry N I0 L0 M0 x1 x2 x3 = some R) : Eqo fwI_X12_entry R.2.1 I0 ∧ Eqo fwM_X12_entry R.2.2.2 M0 := by
  unfold fX12_entry at h
  obtain ⟨r1, e_r1, h⟩ := wb_b h
  have a1 := fr_fX12_isWheel e_r1
  have fI_r1 := a1.1.tr (W := fwI_X12_entry) (by decide) (Eqo.refl fwI_X12_entry I0)
  have fM_r1 := a1.2.tr (W := fwM_X12_entry) (by decide) (Eqo.refl fwM_X12_entry M0)
  rcases fr_i h with h | h
  · have h := Option.some.inj h
    subst h
    exact ⟨fI_r1, fM_r1⟩
  · obtain ⟨r2, -, h⟩ := wb_b h
    obtain ⟨r3, e_r3, h⟩ := wb_b h
    have a2 := fr_fX12_right e_r3
    have fI_r3 := a2.1.tr (W := fwI_X12_entry) (by decide) fI_r1
    have fM_r3 := a2.2.tr (W := fwM_X12_entry) (by decide) fM_r1
    rcases fr_i h with h | h
    · have h := Option.some.inj h
      subst h
      exact ⟨fI_r3, fM_r3⟩
    · obtain ⟨r4, -, h⟩ := wb_b h
      have h := Option.some.inj h
      subst h
      exact ⟨fI_r3, fM_r3⟩
abbrev fwI_X12_cost : List Nat := [0]
abbrev fwM_X12_cost : List Nat := []
theorem fr_fX12_cost_J35 {N : Nat} {x1 : Int32} {x2 : Int32} {x3 : Int32} {x4 : Int32} {I0_j35 : Nat → Int32} {L0_j35 : Int64} {M0_j35 : Nat → Nat → Int32} {z35_0 : Int32} {R} (h : fX12_cost_J35 N x1 x2 x3 x4 I0_j35 L0_j35 M0_j35 z35_0 = some R) : Eqo fwI_X12_cost R.2.1 I0_j35 ∧ Eqo fwM_X12_cost R.2.2.2 M0_j35 := by
  unfold fX12_cost_J35 at h
  obtain ⟨r1, e_r1, h⟩ := wb_b h
  have a1 := fr_fX12_right e_r1
  have fI_r1 := a1.1.tr (W := fwI_X12_cost) (by decide) (Eqo.refl fwI_X12_cost I0_j35)
  have fM_r1 := a1.2.tr (W := fwM_X12_cost) (by decide) (Eqo.refl fwM_X12_cost M0_j35)
  rcases fr_i h with h | h
  · have h := Option.some.inj h
    subst h
    exact ⟨fI_r1, fM_r1⟩
  · obtain ⟨r2, -, h⟩ := wb_b h
    have h := Option.some.inj h
    subst h
    exact ⟨fI_r1, fM_r1⟩
theorem fr_fX12_cost_J34 {N : Nat} {x1 : Int32} {x2 : Int32} {x3 : Int32} {x4 : Int32} {I0_j34 : Nat → Int32} {L0_j34 : Int64} {M0_j34 : Nat → Nat → Int32} {R} (h : fX12_cost_J34 N x1 x2 x3 x4 I0_j34 L0_j34 M0_j34 = some R) : Eqo fwI_X12_cost R.2.1 I0_j34 ∧ Eqo fwM_X12_cost R.2.2.2 M0_j34 := by
  unfold fX12_cost_J34 at h
  have a1 := fr_fX12_cost_J35 h
  exact ⟨a1.1.tr (by decide) (Eqo.refl fwI_X12_cost I0_j34), a1.2.tr (by decide) (Eqo.refl fwM_X12_cost M0_j34)⟩
theorem fr_fX12_cost {N : Nat} {I0 : Nat → Int32} {L0 : Int64} {M0 : Nat → Nat → Int32} {x1 : Int32} {x2 : Int32} {x3 : Int32} {x4 : Int32} {R} (h : fX12_cost N I0 L0 M0 x1 x2 x3 x4 = some R) : Eqo fwI_X12_cost R.2.1 I0 ∧ Eqo fwM_X12_cost R.2.2.2 M0 := by
  unfold fX12_cost at h
  obtain ⟨r3, e_r3, h⟩ := wb_b h
  have a1 := fr_fX12_isWheel e_r3
  have fI_r3 := a1.1.tr (W := fwI_X12_cost) (by decide) (Eqo.refl fwI_X12_cost I0)
  have fM_r3 := a1.2.tr (W := fwM_X12_cost) (by decide) (Eqo.refl fwM_X12_cost M0)
  rcases fr_i h with h | h
  · have h := Option.some.inj h
    subst h
    exact ⟨fI_r3, fM_r3⟩
  · obtain ⟨r4, -, h⟩ := wb_b h
    rcases fr_i h with h | h
    · have a2 := fr_fX12_cost_J34 h
      exact ⟨a2.1.tr (by decide) fI_r3, a2.2.tr (by decide) fM_r3⟩
    · obtain ⟨r5, -, h⟩ := wb_b h
      rcases fr_i h with h | h
      · have a3 := fr_fX12_cost_J34 h
        exact ⟨a3.1.tr (by decide) fI_r3, a3.2.tr (by decide) fM_r3⟩
      · have a4 := fr_fX12_cost_J35 h
        exact ⟨a4.1.tr (by decide) fI_r3, a4.2.tr (by decide) fM_r3⟩
abbrev fwI_X12_isSpan : List Nat := [0]
abbrev fwM_X12_isSpan : List Nat := []
theorem fr_fX12_isSpan_J39 {N : Nat} {x1 : Int32} {x2 : Int32} {I0_j39 : Nat → Int32} {L0_j39 : Int64} {M0_j39 : Nat → Nat → Int32} {R} (h : fX12_isSpan_J39 N x1 x2 I0_j39 L0_j39 M0_j39 = some R) : Eqo fwI_X12_isSpan R.2.1 I0_j39 ∧ Eqo fwM_X12_isSpan R.2.2.2 M0_j39 := by
  unfold fX12_isSpan_J39 at h
  obtain ⟨r1, e_r1, h⟩ := wb_b h
  have a1 := fr_fX12_right e_r1
  have fI_r1 := a1.1.tr (W := fwI_X12_isSpan) (by decide) (Eqo.refl fwI_X12_isSpan I0_j39)
  have fM_r1 := a1.2.tr (W := fwM_X12_isSpan) (by decide) (Eqo.refl fwM_X12_isSpan M0_j39)
  rcases fr_i h with h | h
  · have h := Option.some.inj h
    subst h
    exact ⟨fI_r1, fM_r1⟩
  · have h := Option.some.inj h
    subst h
    exact ⟨fI_r1, fM_r1⟩
theorem fr_fX12_isSpan {N : Nat} {I0 : Nat → Int32} {L0 : Int64} {M0 : Nat → Nat → Int32} {x1 : Int32} {x2 : Int32} {R} (h : fX12_isSpan N I0 L0 M0 x1 x2 = some R) : Eqo fwI_X12_isSpan R.2.1 I0 ∧ Eqo fwM_X12_isSpan R.2.2.2 M0 := by
  unfold fX12_isSpan at h
  obtain ⟨r2, -, h⟩ := wb_b h
  obtain ⟨r3, e_r3, h⟩ := wb_b h
  have a1 := fr_fX12_right e_r3
  have fI_r3 := a1.1.tr (W := fwI_X12_isSpan) (by decide) (Eqo.refl fwI_X12_isSpan I0)
  have fM_r3 := a1.2.tr (W := fwM_X12_isSpan) (by decide) (Eqo.refl fwM_X12_isSpan M0)
  rcases fr_i h with h | h
  · have h := Option.some.inj h
    subst h
    exact ⟨fI_r3, fM_r3⟩
  · obtain ⟨r4, -, h⟩ := wb_b h
    rcases fr_i h with h | h
    · have a2 := fr_fX12_isSpan_J39 h
      exact ⟨a2.1.tr (by decide) fI_r3, a2.2.tr (by decide) fM_r3⟩
    · rcases fr_i h with h | h
      · have a3 := fr_fX12_isSpan_J39 h
        exact ⟨a3.1.tr (by decide) fI_r3, a3.2.tr (by decide) fM_r3⟩
      · obtain ⟨r5, e_r5, h⟩ := wb_b h
        have a4 := fr_fX12_right e_r5
        have fI_r5 := a4.1.tr (W := fwI_X12_isSpan) (by decide) fI_r3
        have fM_r5 := a4.2.tr (W := fwM_X12_isSpan) (by decide) fM_r3
        rcases fr_i h with h | h
        · have h := Option.some.inj h
          subst h
          exact ⟨fI_r5, fM_r5⟩
        · have h := Option.some.inj h
          subst h
          exact ⟨fI_r5, fM_r5⟩
abbrev fwI_X12_best : List Nat := [0, 15]
abbrev fwM_X12_best : List Nat := [17]
theorem fr_fX12_best_J118 {N : Nat} {x1 : Int32} {x2 : Int32} {x3 : Int32} {x4 : Int32} {x5 : Int32} {g45 : (Nat → Int32) → Int64 → (Nat → Nat → Int32) → Int32 → Int32 → Option (Int32 × (Nat → Int32) × Int64 × (Nat → Nat → Int32))} {I0_j118 : Nat → Int32} {L0_j118 : Int64} {M0_j118 : Nat → Nat → Int32} {y118_6 : Int32} {y118_7 : Int32} (hg45 : ∀ q0 q1 q2 q3 q4 R, g45 q0 q1 q2 q3 q4 = some R → Eqo fwI_X12_best R.2.1 q0 ∧ Eqo fwM_X12_best R.2.2.2 q2) {R} (h : fX12_best_J118 N x1 x2 x3 x4 x5 g45 I0_j118 L0_j118 M0_j118 y118_6 y118_7 = some R) : Eqo fwI_X12_best R.2.1 I0_j118 ∧ Eqo fwM_X12_best R.2.2.2 M0_j118 := by
  unfold fX12_best_J118 at h
  obtain ⟨I0_5, e_I0_5, h⟩ := wb_v h
  have f_I0_5 := Eqo.eq e_I0_5 (Eqo.u (by decide) (Eqo.refl fwI_X12_best I0_j118))
  obtain ⟨v6, -, h⟩ := wb_v h
  have a1 := hg45 _ _ _ _ _ _ h
  exact ⟨a1.1.tr (by decide) f_I0_5, a1.2.tr (by decide) (Eqo.refl fwM_X12_best M0_j118)⟩
theorem fr_fX12_best_J94 {N : Nat} {x1 : Int32} {x2 : Int32} {x3 : Int32} {x4 : Int32} {x5 : Int32} {g45 : (Nat → Int32) → Int64 → (Nat → Nat → Int32) → Int32 → Int32 → Option (Int32 × (Nat → Int32) × Int64 × (Nat → Nat → Int32))} {I0_j94 : Nat → Int32} {L0_j94 : Int64} {M0_j94 : Nat → Nat → Int32} {y94_7 : Int32} {y94_8 : Int32} (hg45 : ∀ q0 q1 q2 q3 q4 R, g45 q0 q1 q2 q3 q4 = some R → Eqo fwI_X12_best R.2.1 q0 ∧ Eqo fwM_X12_best R.2.2.2 q2) {R} (h : fX12_best_J94 N x1 x2 x3 x4 x5 g45 I0_j94 L0_j94 M0_j94 y94_7 y94_8 = some R) : Eqo fwI_X12_best R.2.1 I0_j94 ∧ Eqo fwM_X12_best R.2.2.2 M0_j94 := by
  unfold fX12_best_J94 at h
  rcases fr_i h with h | h
  · have a1 := fr_fX12_best_J118 hg45 h
    exact ⟨a1.1.tr (by decide) (Eqo.refl fwI_X12_best I0_j94), a1.2.tr (by decide) (Eqo.refl fwM_X12_best M0_j94)⟩
  · obtain ⟨-, h⟩ := wb_n h
    obtain ⟨M0_7, e_M0_7, h⟩ := wb_v h
    have f_M0_7 := Eqo.eq e_M0_7 (Eqo.m (by decide) (Eqo.refl fwM_X12_best M0_j94))
    have a2 := fr_fX12_best_J118 hg45 h
    exact ⟨a2.1.tr (by decide) (Eqo.refl fwI_X12_best I0_j94), a2.2.tr (by decide) f_M0_7⟩

theorem wb_wide : True := by
  have := @Jvm.RowPassed
  trivial
theorem wb_t {c : Prop} [Decidable c] {α : Type} {A B : Option α} {R : α} (h : c) (hf : (if c then A else B) = some R) : A = some R := by rw [if_pos h] at hf; exact hf
theorem wb_f {c : Prop} [Decidable c] {α : Type} {A B : Option α} {R : α} (h : ¬ c) (hf : (if c then A else B) = some R) : B = some R := by rw [if_neg h] at hf; exact hf
theorem wb_n {c : Prop} [Decidable c] {α : Type} {A : Option α} {R : α} (hf : (if c then none else A) = some R) : ¬ c ∧ A = some R := by
  by_cases h : c
  · rw [if_pos h] at hf; cases hf
  · rw [if_neg h] at hf; exact ⟨h, hf⟩
theorem wb_y {c : Prop} [Decidable c] {α : Type} {A : Option α} {R : α} (hf : (if c then A else none) = some R) : c ∧ A = some R := by
  by_cases h : c
  · rw [if_pos h] at hf; exact ⟨h, hf⟩
  · rw [if_neg h] at hf; cases hf
theorem wb_b {α β : Type} {x : Option α} {k : α → Option β} {R : β} (h : x.bind k = some R) : ∃ r, x = some r ∧ k r = some R := by
  cases x with
  | none => cases h
  | some r => exact ⟨r, rfl, h⟩
theorem wb_v {α β : Type} {e : α} {k : α → Option β} {R : β} (h : (some e).bind k = some R) : ∃ v, v = e ∧ k v = some R := ⟨e, rfl, h⟩
def wb_sh {α : Type} (f : Nat → α) (o : Nat) : Nat → α := fun k => f (k + o)
def wb_in {α : Type} (f : Nat → α) (o n : Nat) (g : Nat → α) : Nat → α := fun k => if o ≤ k ∧ k < o + n then g (k - o) else f k
def wb_um (M : Nat → Nat → Int32) (k i : Nat) (x : Int32) : Nat → Nat → Int32 := fun j => if j = k then upd (M k) i x else M j
def wb_mm (M : Nat → Nat → Int32) (k : Nat) (f : Nat → Int32) : Nat → Nat → Int32 := fun j => if j = k then f else M j
def wb_ok {α : Type} (x : Option α) : Option (Nat ⊕ α) := x.map .inr
theorem wb_okr {α : Type} {x : Option α} {R : α} (h : wb_ok x = some (.inr R)) : x = some R := by
  cases x with
  | none => cases h
  | some a => cases h; rfl
theorem wb_okn {α : Type} {x : Option α} {k : Nat} : ¬ wb_ok x = some (.inl k) := by
  intro h
  cases x with
  | none => cases h
  | some a => cases h
def wb_xb {α β : Type} (x : Option (Nat ⊕ α)) (f : α → Option (Nat ⊕ β)) : Option (Nat ⊕ β) := match x with
  | none => none
  | some (.inl k) => some (.inl k)
  | some (.inr a) => f a
theorem wb_xr {α β : Type} {x : Option (Nat ⊕ α)} {f : α → Option (Nat ⊕ β)} {R : β} (h : wb_xb x f = some (.inr R)) : ∃ r, x = some (.inr r) ∧ f r = some (.inr R) := by
  match x, h with
  | none, h => cases h
  | some (.inl k), h => cases h
  | some (.inr a), h => exact ⟨a, rfl, h⟩
theorem wb_xt {α β : Type} {x : Option (Nat ⊕ α)} {f : α → Option (Nat ⊕ β)} {k : Nat} (h : wb_xb x f = some (.inl k)) : x = some (.inl k) ∨ ∃ r, x = some (.inr r) ∧ f r = some (.inl k) := by
  match x, h with
  | none, h => cases h
  | some (.inl k), h => cases h; exact Or.inl rfl
  | some (.inr a), h => exact Or.inr ⟨a, rfl, h⟩
def wb_hp {α β : Type} (x : Option (Nat ⊕ α)) (g : Nat → Option β) (f : α → Option β) : Option β := match x with
  | none => none
  | some (.inl k) => g k
  | some (.inr a) => f a

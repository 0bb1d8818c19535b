/-! words of one list among another's: rising runs of places, each by its gaps -/
def wk_pick : List Nat → List Cond → List Cond
  | [], _ => []
  | g :: gs, l => match l.drop g with
    | [] => []
    | a :: r => a :: wk_pick gs r
def wk_picks : List (List Nat) → List Cond → List Cond
  | [], _ => []
  | [g], l => wk_pick g l
  | g :: gs, l => wk_pick g l ++ wk_picks gs l
theorem wk_pick_in : ∀ (gs : List Nat) (l : List Cond) (w : Cond), w ∈ wk_pick gs l → w ∈ l
  | [], _, _, h => absurd h List.not_mem_nil
  | g :: gs, l, w, h => by
    unfold wk_pick at h
    split at h
    · exact absurd h List.not_mem_nil
    · rename_i a r e
      have hd : ∀ x ∈ a :: r, x ∈ l := fun x hx => List.mem_of_mem_drop (e ▸ hx)
      rcases List.mem_cons.mp h with h | h
      · exact hd w (h ▸ List.mem_cons_self)
      · exact hd w (List.mem_cons_of_mem _ (wk_pick_in gs r w h))
theorem wk_picks_in : ∀ (gs : List (List Nat)) (l : List Cond) (w : Cond), w ∈ wk_picks gs l → w ∈ l
  | [], _, _, h => absurd h List.not_mem_nil
  | [g], l, w, h => wk_pick_in g l w h
  | g :: g2 :: gs, l, w, h => (List.mem_append.mp h).elim (wk_pick_in g l w) (wk_picks_in (g2 :: gs) l w)
theorem goodIn_k {big : List Cond} (ws : List Cond) (ps : List (List Nat)) (hp : ws = wk_picks ps big) (h : ws.all goodWord = true) : GoodIn big ws := by
  intro w hw
  have h1 := List.all_eq_true.mp h w hw
  rw [hp] at hw
  exact ⟨wk_picks_in ps big w hw, good_of_word h1⟩
theorem gw_V (o : String) (i : Nat) (c : String) (y : MethodName) : ([.methodLink o i y, .instanceMethod y, .selects c y y, .initialized c] : List Cond).all goodWord = true := rfl
theorem gw_S (o : String) (i : Nat) (c : String) (y : MethodName) : ([.methodLink o i y, .static y, .initialized c] : List Cond).all goodWord = true := rfl

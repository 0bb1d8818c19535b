/-! p1, pure: the fresh states -/
theorem wp_getD {α : Type} (l : List α) (d : α) (k : Nat) (h : l.length ≤ k) : l.getD k d = d := by simp [List.getD, List.getElem?_eq_none h]
theorem wp_loop {σ : Type} (F : Nat → Int32 → Option σ) (K : Nat) (res : σ) (hend : ∀ fu, F (fu + 1) (nI K) = some res) (hstep : ∀ fu k, k < K → F (fu + 1) (nI k) = F fu (nI (k + 1))) : ∀ fu k, k ≤ K → K - k < fu → F fu (nI k) = some res := by
  intro fu
  induction fu with
  | zero => intro k h1 h2; omega
  | succ fu ih =>
    intro k h1 h2
    rcases Nat.lt_or_ge k K with h | h
    · rw [hstep fu k h]; exact ih (k + 1) h (by omega)
    · have hk : k = K := by omega
      subst hk; exact hend fu
theorem wp_loopS {σ τ : Type} (F : Nat → τ → Int32 → Option σ) (K : Nat) (st : Nat → τ) (res : σ) (hend : ∀ fu, K < fu + 1 + K → F (fu + 1) (st K) (nI K) = some res) (hstep : ∀ fu k, k < K → F (fu + 1) (st k) (nI k) = F fu (st (k + 1)) (nI (k + 1))) : ∀ fu k, k ≤ K → K - k < fu → F fu (st k) (nI k) = some res := by
  intro fu
  induction fu with
  | zero => intro k h1 h2; omega
  | succ fu ih =>
    intro k h1 h2
    rcases Nat.lt_or_ge k K with h | h
    · rw [hstep fu k h]; exact ih (k + 1) h (by omega)
    · have hk : k = K := by omega
      subst hk; exact hend fu (by omega)
theorem wp_in {k n : Nat} (h : k < n) (hn : n < 2 ^ 31) : ¬ (nI k < 0 ∨ n ≤ (nI k).toNatClampNeg) := by
  rw [nI_clamp (by omega)]
  intro q
  rcases q with q | q
  · exact nI_pos (by omega) q
  · omega
theorem wp_fill (N n : Nat) (f : Nat → Int32) (v : Int32) (hn : n < 2 ^ 31) (hN : n < N) : fJ7_fill_53178 N n f v = some (fun j => if j < n then v else f j) := by
  have h := wp_loopS (F := fun fu st i => fJ7_fill_53178_L5 N n v (nI n) fu st i) n (fun k j => if j < k then v else f j) (fun j => if j < n then v else f j)
    (fun fu _ => by
      show fJ7_fill_53178_L5 N n v (nI n) (fu + 1) _ (nI n) = _
      rw [fJ7_fill_53178_L5.eq_2, if_pos (nI_le (Nat.le_refl n) hn)])
    (fun fu k hk => by
      show fJ7_fill_53178_L5 N n v (nI n) (fu + 1) _ (nI k) = _
      rw [fJ7_fill_53178_L5.eq_2, if_neg (nI_ge hk hn), if_neg (wp_in hk hn)]
      show fJ7_fill_53178_L5 N n v (nI n) fu (upd (fun j => if j < k then v else f j) (nI k).toNatClampNeg v) (nI k + 1) = _
      rw [nI_clamp (by omega), nI_1]
      congr 1
      funext j
      unfold upd
      by_cases h1 : j = k
      · subst h1; simp
      · by_cases h2 : j < k
        · simp [h1, h2, Nat.lt_succ_of_lt h2]
        · have h3 : ¬ j < k + 1 := by omega
          simp [h1, h2, h3])
    N 0 (Nat.zero_le _) (by omega)
  have e : (fun j => if j < 0 then v else f j) = f := by funext j; simp
  rw [e] at h
  exact h

/-! class and reference, call by call -/
theorem wq_eb {α β : Type} {x : Option α} {k : α → Option β} {P : α → Prop} {Q : β → Prop} (h : wq x P) (h2 : ∀ r, x = some r → P r → wq (k r) Q) : wq (x.bind k) Q := by
  obtain ⟨r, rfl, hr⟩ := h
  exact h2 r rfl hr
theorem EnR.cg {M M' K K' : Nat → Nat → Int32} (h : EnR M K) (hm : M' 13 = M 13) (hk : K' 7 = K 7) : EnR M' K' := by
  unfold EnR at h ⊢
  rw [hm, hk]
  exact h
def RR (I0 : Nat → Int32) (M0 : Nat → Nat → Int32) (I1 : Nat → Int32) (M1 : Nat → Nat → Int32) : Prop := TR I0 I1 M0 M1 ∧ EnR M0 M1 ∧ HT I0 M0 I1 M1
theorem RR_fresh : RR fx_I fx_M fm_I fm_M := by
  refine ⟨⟨by decide, by decide, by decide, fun j hj => ?_⟩, fun j hj => ?_, ?_⟩
  · exfalso
    rw [show (fx_I 0).toInt = 0 from by decide] at hj
    omega
  · show (if ((13 : Nat) = 4 ∨ (13 : Nat) = 10) ∧ j < 28 then (1 : Int32) else if (13 : Nat) = 13 ∧ j < 2640 then -1 else _) = (if (7 : Nat) = 3 ∧ j < 28 then (1 : Int32) else if (7 : Nat) = 7 ∧ j < 2640 then -1 else _)
    rw [if_neg (by omega), if_pos ⟨rfl, hj⟩, if_neg (by omega), if_pos ⟨rfl, hj⟩]
  · refine ⟨by decide, by decide, by decide, by decide, fun j hj => ?_, ?_, ?_⟩
    · refine ⟨⟨?_, ?_, ?_, ?_⟩, ?_⟩
      · rw [fx_M_z 1 j (by decide), fm_M_z 0 j (by decide)]
      · rw [fx_M_z 2 j (by decide), fm_M_z 1 j (by decide)]
      · rw [fx_M_z 3 j (by decide), fm_M_z 2 j (by decide)]
      · show (if ((4 : Nat) = 4 ∨ (4 : Nat) = 10) ∧ j < 28 then (1 : Int32) else _) = (if (3 : Nat) = 3 ∧ j < 28 then (1 : Int32) else _)
        rw [if_pos ⟨Or.inl rfl, hj⟩, if_pos ⟨rfl, hj⟩]
      · rw [fm_M_z 0 j (by decide), fm_M_z 1 j (by decide), fm_M_z 2 j (by decide), show fm_M 3 j = 1 from by simp [fm_M, hj]]
        exact ⟨by decide, by decide, by decide, by decide⟩
    · refine ⟨fun k hk => ?_, fun k hk => ?_⟩
      · rw [fx_M_z 5 _ (by decide)]; decide
      · exfalso
        rw [show (fm_I 1).toInt = 0 from by decide] at hk
        omega
    · intro a b ha hb
      rw [fx_M_z 6 a (by decide), show bt 0 b = false from b_0 b]
      constructor
      · intro h; cases h
      · rintro ⟨k, hk, -⟩
        exfalso
        rw [show (fm_I 2).toInt = 0 from by decide] at hk
        omega
theorem hd_T_feed {N : Nat} {I0 I1 : Nat → Int32} {M0 M1 : Nat → Nat → Int32} {L1 : Int64} {a b c d e : Int32} {r : Int32 × (Nat → Int32) × (Nat → Nat → Int32)} {s : Int32 × (Nat → Int32) × Int64 × (Nat → Nat → Int32)} (e1 : fX11_feed N I0 M0 a b c d e = some r) (e3 : fX12_feed N I1 L1 M1 a b c d e = some s) (hr : RR I0 M0 I1 M1) : TR r.2.1 s.2.1 r.2.2 s.2.2.2 := (fed hr.1 e1 e3).2
theorem hs_house {N : Nat} {I0 I1 : Nat → Int32} {M0 M1 : Nat → Nat → Int32} {L1 : Int64} {a : Int32} {o : Nat → Int64} {r : Int32 × (Nat → Int32) × (Nat → Nat → Int32) × (Nat → Int64)} {s : Int32 × (Nat → Int32) × Int64 × (Nat → Nat → Int32)} (e1 : fL_house N I0 M0 a o = some r) (e3 : fX12_house N I1 L1 M1 a = some s) (hr : RR I0 M0 I1 M1) : TR r.2.1 s.2.1 r.2.2.1 s.2.2.2 ∧ HT r.2.1 r.2.2.1 s.2.1 s.2.2.2 := by
  unfold fL_house at e1
  rcases fr_hp e1 with ⟨k, e, h⟩ | ⟨R, e, h⟩
  · rcases hous hr.1 hr.2.2 e e3 with ⟨w1, w2, w3, w4, w5, w6⟩ | ⟨R, w, -⟩
    · have w1 := Sum.inl.inj w1
      have h := Option.some.inj (wb_t w1 h)
      subst h
      exact ⟨hr.1.cg rfl w5 rfl (by rw [w6]), hr.2.2.cg rfl rfl (fun _ _ _ => rfl) w3 w4 (fun _ _ => by rw [w6])⟩
    · cases w
  · rcases hous hr.1 hr.2.2 e e3 with ⟨w1, -⟩ | ⟨R', w, w1, w2, w3, w4⟩
    · cases w1
    · have w := Sum.inr.inj w
      subst w
      obtain ⟨o1, -, h⟩ := wb_v h
      have h := Option.some.inj h
      subst h
      refine ⟨⟨?_, ?_, ?_, ?_⟩, w4⟩
      · show R.2.1 0 = s.2.1 3
        rw [w2, w3]
      · show 0 ≤ (R.2.1 0).toInt
        rw [w2]; decide
      · show (R.2.1 0).toInt ≤ 600
        rw [w2]; decide
      · intro j hj
        exfalso
        have hj : (j : Int) < (R.2.1 0).toInt := hj
        rw [w2, show (0 : Int32).toInt = 0 from by decide] at hj
        omega
theorem hs_wheel {N : Nat} (hN : 3000000000 ≤ N) {I0 I1 : Nat → Int32} {M0 M1 : Nat → Nat → Int32} {L1 : Int64} {a b c : Int32} {o : Nat → Int64} {r : Int32 × (Nat → Int32) × (Nat → Nat → Int32) × (Nat → Int64)} {s : Int32 × (Nat → Int32) × Int64 × (Nat → Nat → Int32)} (e1 : fL_wheel N I0 M0 a b c o = some r) (e3 : fX12_wheel N I1 L1 M1 a b c = some s) (hr : RR I0 M0 I1 M1) : TR r.2.1 s.2.1 r.2.2.1 s.2.2.2 ∧ EnR r.2.2.1 s.2.2.2 ∧ s.2.1 0 = r.1 ∧ (r.1 = 0 → r.2.2.2 0 = s.1.toInt64) := by
  unfold fL_wheel at e1
  rcases fr_hp e1 with ⟨k, e, h⟩ | ⟨R, e, h⟩
  · rcases whl (by omega) hr.1 hr.2.1 e e3 with ⟨w1, w2, w3, w4⟩ | ⟨w1, w2, w3, w4⟩ | ⟨R, w, -⟩
    · have w1 := Sum.inl.inj w1
      have h := Option.some.inj (wb_t w1 h)
      subst h
      exact ⟨hr.1.cg rfl w3 rfl (by rw [w4]), hr.2.1.cg rfl (by rw [w4]), w2, fun z => absurd z (show ¬ (1 : Int32) = 0 by decide)⟩
    · have w1 := Sum.inl.inj w1
      have h := wb_f (by rw [w1]; decide) h
      have h := Option.some.inj (wb_t w1 h)
      subst h
      exact ⟨hr.1.cg rfl w3 rfl (by rw [w4]), hr.2.1.cg rfl (by rw [w4]), w2, fun z => absurd z (show ¬ (2 : Int32) = 0 by decide)⟩
    · cases w
  · rcases whl (by omega) hr.1 hr.2.1 e e3 with ⟨w1, -⟩ | ⟨w1, -⟩ | ⟨R', w, w1, w2, w3, w4, w5⟩
    · cases w1
    · cases w1
    · have w := Sum.inr.inj w
      subst w
      obtain ⟨o1, eo, h⟩ := wb_v h
      have h := Option.some.inj h
      subst h
      refine ⟨⟨?_, ?_, ?_, ?_⟩, w5, w1, fun _ => ?_⟩
      · show R.2.1 0 = s.2.1 3
        rw [w3, w4]
      · show 0 ≤ (R.2.1 0).toInt
        rw [w3]; decide
      · show (R.2.1 0).toInt ≤ 600
        rw [w3]; decide
      · intro j hj
        exfalso
        have hj : (j : Int) < (R.2.1 0).toInt := hj
        rw [w3, show (0 : Int32).toInt = 0 from by decide] at hj
        omega
      · show o1 0 = _
        rw [eo, ← w2]; rfl
